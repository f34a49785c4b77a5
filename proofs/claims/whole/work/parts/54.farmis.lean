theorem ct_X7_farmIs_no {g : GT} {σ : S_} {f x : Int32} (h : ¬ (0 ≤ f ∧ f ≤ σ 8 1 - 1)) : CT g 2 M_X7_farmIs [.ref 0, .int f, .int x] σ (EQ (.int (-1000000001)) (rfz σ 1)) := by
  refine ct_of [.ref 0, .int f, .int x, .null] pn_X7_farmIs rfl (Nat.le_of_ble_eq_true rfl) ?_
  refine j_aload_n dX7_farmIs_0 (q := 1) rfl rfl ?_
  refine j_iload_n dX7_farmIs_1 (q := 2) rfl rfl ?_
  refine j_callVi1E (M' := M_X7_isFarm) lk_X7_79 mv_X7_isFarm ob_0 (by decide) (Nat.le_of_ble_eq_true rfl) dX7_farmIs_2 (q := 5) rfl (ct_X7_isFarm) ?_
  refine j_ifneB dX7_farmIs_5 (t := 14) (by decide) (q := 8) rfl (fun c_5 => ?_) (fun c_5 => ?_)
  · skip
    exact absurd c_5 h
  · skip
    refine j_aload_n dX7_farmIs_8 (q := 9) rfl rfl ?_
    refine j_iconst (v := 1) dX7_farmIs_9 (q := 10) rfl (by decide) ?_
    refine j_callVi1E (M' := M_X7_refuse) lk_X7_61 mv_X7_refuse ob_0 (by decide) (Nat.le_of_ble_eq_true rfl) dX7_farmIs_10 (q := 13) rfl (ct_ref1) ?_
    refine j_ireti dX7_farmIs_13 rfl ?_
    exact ⟨rfl, rfl⟩
theorem ct_X7_farmIs_far {g : GT} {σ : S_} {n nf : Nat} (hn : n < nf) (h7 : nf ≤ 7) (e : σ 8 1 = nI nf) {x : Int32} (h : ∀ k, k < 8 → x ≠ nI k) : CT g 2 M_X7_farmIs [.ref 0, .int (nI n), .int x] σ (EQ (.int (-1000000001)) (rfz σ 1)) := by
  refine ct_of [.ref 0, .int (nI n), .int x, .null] pn_X7_farmIs rfl (Nat.le_of_ble_eq_true rfl) ?_
  refine j_aload_n dX7_farmIs_0 (q := 1) rfl rfl ?_
  refine j_iload_n dX7_farmIs_1 (q := 2) rfl rfl ?_
  refine j_callVi1E (M' := M_X7_isFarm) lk_X7_79 mv_X7_isFarm ob_0 (by decide) (Nat.le_of_ble_eq_true rfl) dX7_farmIs_2 (q := 5) rfl (ct_X7_isFarm) ?_
  refine j_ifneB dX7_farmIs_5 (t := 14) (by decide) (q := 8) rfl (fun c_5 => ?_) (fun c_5 => ?_)
  · skip
    refine j_aload_n dX7_farmIs_14 (q := 15) rfl rfl ?_
    refine j_getR (r := 8) fs_X7_10 rfl rfl rfl dX7_farmIs_15 (q := 18) rfl ?_
    refine j_getR (r := 9) fs_X7_69 rfl rfl rfl dX7_farmIs_18 (q := 21) rfl ?_
    refine j_iload_n dX7_farmIs_21 (q := 22) rfl rfl ?_
    refine j_aaldN rfl (by omega) (rf_farm (by omega)) dX7_farmIs_22 (q := 23) rfl ?_
    refine j_astore_n_4_3 dX7_farmIs_23 (q := 24) rfl rfl rfl ?_
    refine j_iload_n dX7_farmIs_24 (q := 25) rfl rfl ?_
    refine j_tsw_0_7 dX7_farmIs_25 (td := 131) (t0 := 72) (t1 := 77) (t2 := 82) (t3 := 87) (t4 := 92) (t5 := 97) (t6 := 102) (t7 := 122) (by decide) (by decide) (by decide) (by decide) (by decide) (by decide) (by decide) (by decide) (by decide) (fun e_25 => ?_) (fun e_25 => ?_) (fun e_25 => ?_) (fun e_25 => ?_) (fun e_25 => ?_) (fun e_25 => ?_) (fun e_25 => ?_) (fun e_25 => ?_) (fun e_25_0 e_25_1 e_25_2 e_25_3 e_25_4 e_25_5 e_25_6 e_25_7 => ?_)
    · skip
      exact absurd e_25 (h 0 (by decide))
    · skip
      exact absurd e_25 (h 1 (by decide))
    · skip
      exact absurd e_25 (h 2 (by decide))
    · skip
      exact absurd e_25 (h 3 (by decide))
    · skip
      exact absurd e_25 (h 4 (by decide))
    · skip
      exact absurd e_25 (h 5 (by decide))
    · skip
      exact absurd e_25 (h 6 (by decide))
    · skip
      exact absurd e_25 (h 7 (by decide))
    · skip
      refine j_aload_n dX7_farmIs_131 (q := 132) rfl rfl ?_
      refine j_iconst (v := 1) dX7_farmIs_132 (q := 133) rfl (by decide) ?_
      refine j_callVi1E (M' := M_X7_refuse) lk_X7_61 mv_X7_refuse ob_0 (by decide) (Nat.le_of_ble_eq_true rfl) dX7_farmIs_133 (q := 136) rfl (ct_ref1) ?_
      refine j_ireti dX7_farmIs_136 rfl ?_
      exact ⟨rfl, rfl⟩
  · skip
    exact absurd (inF hn h7 e) c_5
theorem ct_X7_farmIs_0 {g : GT} {σ : S_} {n nf : Nat} (hn : n < nf) (h7 : nf ≤ 7) (e : σ 8 1 = nI nf) : CT g 2 M_X7_farmIs [.ref 0, .int (nI n), .int 0] σ (EQ (.int (σ (16 + n) 0)) σ) := by
  refine ct_of [.ref 0, .int (nI n), .int 0, .null] pn_X7_farmIs rfl (Nat.le_of_ble_eq_true rfl) ?_
  refine j_aload_n dX7_farmIs_0 (q := 1) rfl rfl ?_
  refine j_iload_n dX7_farmIs_1 (q := 2) rfl rfl ?_
  refine j_callVi1E (M' := M_X7_isFarm) lk_X7_79 mv_X7_isFarm ob_0 (by decide) (Nat.le_of_ble_eq_true rfl) dX7_farmIs_2 (q := 5) rfl (ct_X7_isFarm) ?_
  refine j_ifneB dX7_farmIs_5 (t := 14) (by decide) (q := 8) rfl (fun c_5 => ?_) (fun c_5 => ?_)
  · skip
    refine j_aload_n dX7_farmIs_14 (q := 15) rfl rfl ?_
    refine j_getR (r := 8) fs_X7_10 rfl rfl rfl dX7_farmIs_15 (q := 18) rfl ?_
    refine j_getR (r := 9) fs_X7_69 rfl rfl rfl dX7_farmIs_18 (q := 21) rfl ?_
    refine j_iload_n dX7_farmIs_21 (q := 22) rfl rfl ?_
    refine j_aaldN rfl (by omega) (rf_farm (by omega)) dX7_farmIs_22 (q := 23) rfl ?_
    refine j_astore_n_4_3 dX7_farmIs_23 (q := 24) rfl rfl rfl ?_
    refine j_iload_n dX7_farmIs_24 (q := 25) rfl rfl ?_
    refine j_tsw_0_7 dX7_farmIs_25 (td := 131) (t0 := 72) (t1 := 77) (t2 := 82) (t3 := 87) (t4 := 92) (t5 := 97) (t6 := 102) (t7 := 122) (by decide) (by decide) (by decide) (by decide) (by decide) (by decide) (by decide) (by decide) (by decide) (fun e_25 => ?_) (fun e_25 => ?_) (fun e_25 => ?_) (fun e_25 => ?_) (fun e_25 => ?_) (fun e_25 => ?_) (fun e_25 => ?_) (fun e_25 => ?_) (fun e_25_0 e_25_1 e_25_2 e_25_3 e_25_4 e_25_5 e_25_6 e_25_7 => ?_)
    · skip
      refine j_aload_n dX7_farmIs_72 (q := 73) rfl rfl ?_
      refine j_getI fs_X7_82 (tC_farm (by omega)) rfl dX7_farmIs_73 (q := 76) rfl ?_
      refine j_ireti dX7_farmIs_76 rfl ?_
      exact ⟨rfl, rfl⟩
    · skip
      exact absurd e_25 (by decide)
    · skip
      exact absurd e_25 (by decide)
    · skip
      exact absurd e_25 (by decide)
    · skip
      exact absurd e_25 (by decide)
    · skip
      exact absurd e_25 (by decide)
    · skip
      exact absurd e_25 (by decide)
    · skip
      exact absurd e_25 (by decide)
    · skip
      exact absurd rfl e_25_0
  · skip
    exact absurd (inF hn h7 e) c_5
theorem ct_X7_farmIs_1 {g : GT} {σ : S_} {n nf : Nat} (hn : n < nf) (h7 : nf ≤ 7) (e : σ 8 1 = nI nf) : CT g 2 M_X7_farmIs [.ref 0, .int (nI n), .int 1] σ (EQ (.int (σ (16 + n) 1)) σ) := by
  refine ct_of [.ref 0, .int (nI n), .int 1, .null] pn_X7_farmIs rfl (Nat.le_of_ble_eq_true rfl) ?_
  refine j_aload_n dX7_farmIs_0 (q := 1) rfl rfl ?_
  refine j_iload_n dX7_farmIs_1 (q := 2) rfl rfl ?_
  refine j_callVi1E (M' := M_X7_isFarm) lk_X7_79 mv_X7_isFarm ob_0 (by decide) (Nat.le_of_ble_eq_true rfl) dX7_farmIs_2 (q := 5) rfl (ct_X7_isFarm) ?_
  refine j_ifneB dX7_farmIs_5 (t := 14) (by decide) (q := 8) rfl (fun c_5 => ?_) (fun c_5 => ?_)
  · skip
    refine j_aload_n dX7_farmIs_14 (q := 15) rfl rfl ?_
    refine j_getR (r := 8) fs_X7_10 rfl rfl rfl dX7_farmIs_15 (q := 18) rfl ?_
    refine j_getR (r := 9) fs_X7_69 rfl rfl rfl dX7_farmIs_18 (q := 21) rfl ?_
    refine j_iload_n dX7_farmIs_21 (q := 22) rfl rfl ?_
    refine j_aaldN rfl (by omega) (rf_farm (by omega)) dX7_farmIs_22 (q := 23) rfl ?_
    refine j_astore_n_4_3 dX7_farmIs_23 (q := 24) rfl rfl rfl ?_
    refine j_iload_n dX7_farmIs_24 (q := 25) rfl rfl ?_
    refine j_tsw_0_7 dX7_farmIs_25 (td := 131) (t0 := 72) (t1 := 77) (t2 := 82) (t3 := 87) (t4 := 92) (t5 := 97) (t6 := 102) (t7 := 122) (by decide) (by decide) (by decide) (by decide) (by decide) (by decide) (by decide) (by decide) (by decide) (fun e_25 => ?_) (fun e_25 => ?_) (fun e_25 => ?_) (fun e_25 => ?_) (fun e_25 => ?_) (fun e_25 => ?_) (fun e_25 => ?_) (fun e_25 => ?_) (fun e_25_0 e_25_1 e_25_2 e_25_3 e_25_4 e_25_5 e_25_6 e_25_7 => ?_)
    · skip
      exact absurd e_25 (by decide)
    · skip
      refine j_aload_n dX7_farmIs_77 (q := 78) rfl rfl ?_
      refine j_getI fs_X7_85 (tC_farm (by omega)) rfl dX7_farmIs_78 (q := 81) rfl ?_
      refine j_ireti dX7_farmIs_81 rfl ?_
      exact ⟨rfl, rfl⟩
    · skip
      exact absurd e_25 (by decide)
    · skip
      exact absurd e_25 (by decide)
    · skip
      exact absurd e_25 (by decide)
    · skip
      exact absurd e_25 (by decide)
    · skip
      exact absurd e_25 (by decide)
    · skip
      exact absurd e_25 (by decide)
    · skip
      exact absurd rfl e_25_1
  · skip
    exact absurd (inF hn h7 e) c_5
theorem ct_X7_farmIs_2 {g : GT} {σ : S_} {n nf : Nat} (hn : n < nf) (h7 : nf ≤ 7) (e : σ 8 1 = nI nf) : CT g 2 M_X7_farmIs [.ref 0, .int (nI n), .int 2] σ (EQ (.int (σ (16 + n) 2)) σ) := by
  refine ct_of [.ref 0, .int (nI n), .int 2, .null] pn_X7_farmIs rfl (Nat.le_of_ble_eq_true rfl) ?_
  refine j_aload_n dX7_farmIs_0 (q := 1) rfl rfl ?_
  refine j_iload_n dX7_farmIs_1 (q := 2) rfl rfl ?_
  refine j_callVi1E (M' := M_X7_isFarm) lk_X7_79 mv_X7_isFarm ob_0 (by decide) (Nat.le_of_ble_eq_true rfl) dX7_farmIs_2 (q := 5) rfl (ct_X7_isFarm) ?_
  refine j_ifneB dX7_farmIs_5 (t := 14) (by decide) (q := 8) rfl (fun c_5 => ?_) (fun c_5 => ?_)
  · skip
    refine j_aload_n dX7_farmIs_14 (q := 15) rfl rfl ?_
    refine j_getR (r := 8) fs_X7_10 rfl rfl rfl dX7_farmIs_15 (q := 18) rfl ?_
    refine j_getR (r := 9) fs_X7_69 rfl rfl rfl dX7_farmIs_18 (q := 21) rfl ?_
    refine j_iload_n dX7_farmIs_21 (q := 22) rfl rfl ?_
    refine j_aaldN rfl (by omega) (rf_farm (by omega)) dX7_farmIs_22 (q := 23) rfl ?_
    refine j_astore_n_4_3 dX7_farmIs_23 (q := 24) rfl rfl rfl ?_
    refine j_iload_n dX7_farmIs_24 (q := 25) rfl rfl ?_
    refine j_tsw_0_7 dX7_farmIs_25 (td := 131) (t0 := 72) (t1 := 77) (t2 := 82) (t3 := 87) (t4 := 92) (t5 := 97) (t6 := 102) (t7 := 122) (by decide) (by decide) (by decide) (by decide) (by decide) (by decide) (by decide) (by decide) (by decide) (fun e_25 => ?_) (fun e_25 => ?_) (fun e_25 => ?_) (fun e_25 => ?_) (fun e_25 => ?_) (fun e_25 => ?_) (fun e_25 => ?_) (fun e_25 => ?_) (fun e_25_0 e_25_1 e_25_2 e_25_3 e_25_4 e_25_5 e_25_6 e_25_7 => ?_)
    · skip
      exact absurd e_25 (by decide)
    · skip
      exact absurd e_25 (by decide)
    · skip
      refine j_aload_n dX7_farmIs_82 (q := 83) rfl rfl ?_
      refine j_getI fs_X7_88 (tC_farm (by omega)) rfl dX7_farmIs_83 (q := 86) rfl ?_
      refine j_ireti dX7_farmIs_86 rfl ?_
      exact ⟨rfl, rfl⟩
    · skip
      exact absurd e_25 (by decide)
    · skip
      exact absurd e_25 (by decide)
    · skip
      exact absurd e_25 (by decide)
    · skip
      exact absurd e_25 (by decide)
    · skip
      exact absurd e_25 (by decide)
    · skip
      exact absurd rfl e_25_2
  · skip
    exact absurd (inF hn h7 e) c_5
theorem ct_X7_farmIs_3 {g : GT} {σ : S_} {n nf : Nat} (hn : n < nf) (h7 : nf ≤ 7) (e : σ 8 1 = nI nf) : CT g 2 M_X7_farmIs [.ref 0, .int (nI n), .int 3] σ (EQ (.int (σ (16 + n) 3)) σ) := by
  refine ct_of [.ref 0, .int (nI n), .int 3, .null] pn_X7_farmIs rfl (Nat.le_of_ble_eq_true rfl) ?_
  refine j_aload_n dX7_farmIs_0 (q := 1) rfl rfl ?_
  refine j_iload_n dX7_farmIs_1 (q := 2) rfl rfl ?_
  refine j_callVi1E (M' := M_X7_isFarm) lk_X7_79 mv_X7_isFarm ob_0 (by decide) (Nat.le_of_ble_eq_true rfl) dX7_farmIs_2 (q := 5) rfl (ct_X7_isFarm) ?_
  refine j_ifneB dX7_farmIs_5 (t := 14) (by decide) (q := 8) rfl (fun c_5 => ?_) (fun c_5 => ?_)
  · skip
    refine j_aload_n dX7_farmIs_14 (q := 15) rfl rfl ?_
    refine j_getR (r := 8) fs_X7_10 rfl rfl rfl dX7_farmIs_15 (q := 18) rfl ?_
    refine j_getR (r := 9) fs_X7_69 rfl rfl rfl dX7_farmIs_18 (q := 21) rfl ?_
    refine j_iload_n dX7_farmIs_21 (q := 22) rfl rfl ?_
    refine j_aaldN rfl (by omega) (rf_farm (by omega)) dX7_farmIs_22 (q := 23) rfl ?_
    refine j_astore_n_4_3 dX7_farmIs_23 (q := 24) rfl rfl rfl ?_
    refine j_iload_n dX7_farmIs_24 (q := 25) rfl rfl ?_
    refine j_tsw_0_7 dX7_farmIs_25 (td := 131) (t0 := 72) (t1 := 77) (t2 := 82) (t3 := 87) (t4 := 92) (t5 := 97) (t6 := 102) (t7 := 122) (by decide) (by decide) (by decide) (by decide) (by decide) (by decide) (by decide) (by decide) (by decide) (fun e_25 => ?_) (fun e_25 => ?_) (fun e_25 => ?_) (fun e_25 => ?_) (fun e_25 => ?_) (fun e_25 => ?_) (fun e_25 => ?_) (fun e_25 => ?_) (fun e_25_0 e_25_1 e_25_2 e_25_3 e_25_4 e_25_5 e_25_6 e_25_7 => ?_)
    · skip
      exact absurd e_25 (by decide)
    · skip
      exact absurd e_25 (by decide)
    · skip
      exact absurd e_25 (by decide)
    · skip
      refine j_aload_n dX7_farmIs_87 (q := 88) rfl rfl ?_
      refine j_getI fs_X7_91 (tC_farm (by omega)) rfl dX7_farmIs_88 (q := 91) rfl ?_
      refine j_ireti dX7_farmIs_91 rfl ?_
      exact ⟨rfl, rfl⟩
    · skip
      exact absurd e_25 (by decide)
    · skip
      exact absurd e_25 (by decide)
    · skip
      exact absurd e_25 (by decide)
    · skip
      exact absurd e_25 (by decide)
    · skip
      exact absurd rfl e_25_3
  · skip
    exact absurd (inF hn h7 e) c_5
theorem ct_X7_farmIs_4 {g : GT} {σ : S_} {n nf : Nat} (hn : n < nf) (h7 : nf ≤ 7) (e : σ 8 1 = nI nf) : CT g 2 M_X7_farmIs [.ref 0, .int (nI n), .int 4] σ (EQ (.int (σ (16 + n) 4)) σ) := by
  refine ct_of [.ref 0, .int (nI n), .int 4, .null] pn_X7_farmIs rfl (Nat.le_of_ble_eq_true rfl) ?_
  refine j_aload_n dX7_farmIs_0 (q := 1) rfl rfl ?_
  refine j_iload_n dX7_farmIs_1 (q := 2) rfl rfl ?_
  refine j_callVi1E (M' := M_X7_isFarm) lk_X7_79 mv_X7_isFarm ob_0 (by decide) (Nat.le_of_ble_eq_true rfl) dX7_farmIs_2 (q := 5) rfl (ct_X7_isFarm) ?_
  refine j_ifneB dX7_farmIs_5 (t := 14) (by decide) (q := 8) rfl (fun c_5 => ?_) (fun c_5 => ?_)
  · skip
    refine j_aload_n dX7_farmIs_14 (q := 15) rfl rfl ?_
    refine j_getR (r := 8) fs_X7_10 rfl rfl rfl dX7_farmIs_15 (q := 18) rfl ?_
    refine j_getR (r := 9) fs_X7_69 rfl rfl rfl dX7_farmIs_18 (q := 21) rfl ?_
    refine j_iload_n dX7_farmIs_21 (q := 22) rfl rfl ?_
    refine j_aaldN rfl (by omega) (rf_farm (by omega)) dX7_farmIs_22 (q := 23) rfl ?_
    refine j_astore_n_4_3 dX7_farmIs_23 (q := 24) rfl rfl rfl ?_
    refine j_iload_n dX7_farmIs_24 (q := 25) rfl rfl ?_
    refine j_tsw_0_7 dX7_farmIs_25 (td := 131) (t0 := 72) (t1 := 77) (t2 := 82) (t3 := 87) (t4 := 92) (t5 := 97) (t6 := 102) (t7 := 122) (by decide) (by decide) (by decide) (by decide) (by decide) (by decide) (by decide) (by decide) (by decide) (fun e_25 => ?_) (fun e_25 => ?_) (fun e_25 => ?_) (fun e_25 => ?_) (fun e_25 => ?_) (fun e_25 => ?_) (fun e_25 => ?_) (fun e_25 => ?_) (fun e_25_0 e_25_1 e_25_2 e_25_3 e_25_4 e_25_5 e_25_6 e_25_7 => ?_)
    · skip
      exact absurd e_25 (by decide)
    · skip
      exact absurd e_25 (by decide)
    · skip
      exact absurd e_25 (by decide)
    · skip
      exact absurd e_25 (by decide)
    · skip
      refine j_aload_n dX7_farmIs_92 (q := 93) rfl rfl ?_
      refine j_getI fs_X7_94 (tC_farm (by omega)) rfl dX7_farmIs_93 (q := 96) rfl ?_
      refine j_ireti dX7_farmIs_96 rfl ?_
      exact ⟨rfl, rfl⟩
    · skip
      exact absurd e_25 (by decide)
    · skip
      exact absurd e_25 (by decide)
    · skip
      exact absurd e_25 (by decide)
    · skip
      exact absurd rfl e_25_4
  · skip
    exact absurd (inF hn h7 e) c_5
theorem ct_X7_farmIs_5 {g : GT} {σ : S_} {n nf : Nat} (hn : n < nf) (h7 : nf ≤ 7) (e : σ 8 1 = nI nf) : CT g 2 M_X7_farmIs [.ref 0, .int (nI n), .int 5] σ (EQ (.int (σ (16 + n) 5)) σ) := by
  refine ct_of [.ref 0, .int (nI n), .int 5, .null] pn_X7_farmIs rfl (Nat.le_of_ble_eq_true rfl) ?_
  refine j_aload_n dX7_farmIs_0 (q := 1) rfl rfl ?_
  refine j_iload_n dX7_farmIs_1 (q := 2) rfl rfl ?_
  refine j_callVi1E (M' := M_X7_isFarm) lk_X7_79 mv_X7_isFarm ob_0 (by decide) (Nat.le_of_ble_eq_true rfl) dX7_farmIs_2 (q := 5) rfl (ct_X7_isFarm) ?_
  refine j_ifneB dX7_farmIs_5 (t := 14) (by decide) (q := 8) rfl (fun c_5 => ?_) (fun c_5 => ?_)
  · skip
    refine j_aload_n dX7_farmIs_14 (q := 15) rfl rfl ?_
    refine j_getR (r := 8) fs_X7_10 rfl rfl rfl dX7_farmIs_15 (q := 18) rfl ?_
    refine j_getR (r := 9) fs_X7_69 rfl rfl rfl dX7_farmIs_18 (q := 21) rfl ?_
    refine j_iload_n dX7_farmIs_21 (q := 22) rfl rfl ?_
    refine j_aaldN rfl (by omega) (rf_farm (by omega)) dX7_farmIs_22 (q := 23) rfl ?_
    refine j_astore_n_4_3 dX7_farmIs_23 (q := 24) rfl rfl rfl ?_
    refine j_iload_n dX7_farmIs_24 (q := 25) rfl rfl ?_
    refine j_tsw_0_7 dX7_farmIs_25 (td := 131) (t0 := 72) (t1 := 77) (t2 := 82) (t3 := 87) (t4 := 92) (t5 := 97) (t6 := 102) (t7 := 122) (by decide) (by decide) (by decide) (by decide) (by decide) (by decide) (by decide) (by decide) (by decide) (fun e_25 => ?_) (fun e_25 => ?_) (fun e_25 => ?_) (fun e_25 => ?_) (fun e_25 => ?_) (fun e_25 => ?_) (fun e_25 => ?_) (fun e_25 => ?_) (fun e_25_0 e_25_1 e_25_2 e_25_3 e_25_4 e_25_5 e_25_6 e_25_7 => ?_)
    · skip
      exact absurd e_25 (by decide)
    · skip
      exact absurd e_25 (by decide)
    · skip
      exact absurd e_25 (by decide)
    · skip
      exact absurd e_25 (by decide)
    · skip
      exact absurd e_25 (by decide)
    · skip
      refine j_aload_n dX7_farmIs_97 (q := 98) rfl rfl ?_
      refine j_getI fs_X7_97 (tC_farm (by omega)) rfl dX7_farmIs_98 (q := 101) rfl ?_
      refine j_ireti dX7_farmIs_101 rfl ?_
      exact ⟨rfl, rfl⟩
    · skip
      exact absurd e_25 (by decide)
    · skip
      exact absurd e_25 (by decide)
    · skip
      exact absurd rfl e_25_5
  · skip
    exact absurd (inF hn h7 e) c_5
theorem ct_X7_farmIs_6 {g : GT} {σ : S_} {n nf : Nat} (hn : n < nf) (h7 : nf ≤ 7) (e : σ 8 1 = nI nf) {t : Nat → Int32} (hT : TOK t 0) (hR : TXR σ t 23 0) : CT g 4 M_X7_farmIs [.ref 0, .int (nI n), .int 6] σ (fun r τ => r = .int (growT t (growF (σ (16 + n) 0) (σ (16 + n) 1) (σ (16 + n) 3) (σ 8 6)) (σ (16 + n) 4) (remF (σ 8 6) 24)) ∧ ∀ x, x ≠ 26 → τ x = σ x) := by
  refine ct_of [.ref 0, .int (nI n), .int 6, .null] pn_X7_farmIs rfl (Nat.le_of_ble_eq_true rfl) ?_
  refine j_aload_n dX7_farmIs_0 (q := 1) rfl rfl ?_
  refine j_iload_n dX7_farmIs_1 (q := 2) rfl rfl ?_
  refine j_callVi1E (M' := M_X7_isFarm) lk_X7_79 mv_X7_isFarm ob_0 (by decide) (Nat.le_of_ble_eq_true rfl) dX7_farmIs_2 (q := 5) rfl (ct_X7_isFarm) ?_
  refine j_ifneB dX7_farmIs_5 (t := 14) (by decide) (q := 8) rfl (fun c_5 => ?_) (fun c_5 => ?_)
  · skip
    refine j_aload_n dX7_farmIs_14 (q := 15) rfl rfl ?_
    refine j_getR (r := 8) fs_X7_10 rfl rfl rfl dX7_farmIs_15 (q := 18) rfl ?_
    refine j_getR (r := 9) fs_X7_69 rfl rfl rfl dX7_farmIs_18 (q := 21) rfl ?_
    refine j_iload_n dX7_farmIs_21 (q := 22) rfl rfl ?_
    refine j_aaldN rfl (by omega) (rf_farm (by omega)) dX7_farmIs_22 (q := 23) rfl ?_
    refine j_astore_n_4_3 dX7_farmIs_23 (q := 24) rfl rfl rfl ?_
    refine j_iload_n dX7_farmIs_24 (q := 25) rfl rfl ?_
    refine j_tsw_0_7 dX7_farmIs_25 (td := 131) (t0 := 72) (t1 := 77) (t2 := 82) (t3 := 87) (t4 := 92) (t5 := 97) (t6 := 102) (t7 := 122) (by decide) (by decide) (by decide) (by decide) (by decide) (by decide) (by decide) (by decide) (by decide) (fun e_25 => ?_) (fun e_25 => ?_) (fun e_25 => ?_) (fun e_25 => ?_) (fun e_25 => ?_) (fun e_25 => ?_) (fun e_25 => ?_) (fun e_25 => ?_) (fun e_25_0 e_25_1 e_25_2 e_25_3 e_25_4 e_25_5 e_25_6 e_25_7 => ?_)
    · skip
      exact absurd e_25 (by decide)
    · skip
      exact absurd e_25 (by decide)
    · skip
      exact absurd e_25 (by decide)
    · skip
      exact absurd e_25 (by decide)
    · skip
      exact absurd e_25 (by decide)
    · skip
      exact absurd e_25 (by decide)
    · skip
      refine j_aload_n dX7_farmIs_102 (q := 103) rfl rfl ?_
      refine j_getR (r := 8) fs_X7_10 rfl rfl rfl dX7_farmIs_103 (q := 106) rfl ?_
      refine j_aload_n dX7_farmIs_106 (q := 107) rfl rfl ?_
      refine j_aload_n dX7_farmIs_107 (q := 108) rfl rfl ?_
      refine j_getI fs_X7_94 (tC_farm (by omega)) rfl dX7_farmIs_108 (q := 111) rfl ?_
      refine j_aload_n dX7_farmIs_111 (q := 112) rfl rfl ?_
      refine j_getR (r := 8) fs_X7_10 rfl rfl rfl dX7_farmIs_112 (q := 115) rfl ?_
      refine j_getI fs_X7_100 rfl rfl dX7_farmIs_115 (q := 118) rfl ?_
      refine j_callVi3 (M' := M_X6_growthOf) lk_X7_103 mv_X6_growthOf ob_8 (by decide) (Nat.le_of_ble_eq_true rfl) dX7_farmIs_118 (q := 121) rfl (ct_X6_growthOf (tC_farm (by omega)) hT hR) ?_
      intro x1 τ1 hz
      obtain ⟨z1, hF⟩ := hz
      cases z1
      refine j_ireti dX7_farmIs_121 rfl ?_
      exact ⟨rfl, hF⟩
    · skip
      exact absurd e_25 (by decide)
    · skip
      exact absurd rfl e_25_6
  · skip
    exact absurd (inF hn h7 e) c_5
theorem ct_X7_farmIs_7 {g : GT} {σ : S_} {n nf : Nat} (hn : n < nf) (h7 : nf ≤ 7) (e : σ 8 1 = nI nf) {t : Nat → Int32} (hT : TOK t 1) (hR : TXR σ t 27 1) : CT g 4 M_X7_farmIs [.ref 0, .int (nI n), .int 7] σ (fun r τ => r = .int (payT t (paysF (σ (16 + n) 0) (σ (16 + n) 3) (σ (16 + n) 4 + σ (16 + n) 2)) (σ (16 + n) 4) (σ (16 + n) 2)) ∧ ∀ x, x ≠ 30 → τ x = σ x) := by
  refine ct_of [.ref 0, .int (nI n), .int 7, .null] pn_X7_farmIs rfl (Nat.le_of_ble_eq_true rfl) ?_
  refine j_aload_n dX7_farmIs_0 (q := 1) rfl rfl ?_
  refine j_iload_n dX7_farmIs_1 (q := 2) rfl rfl ?_
  refine j_callVi1E (M' := M_X7_isFarm) lk_X7_79 mv_X7_isFarm ob_0 (by decide) (Nat.le_of_ble_eq_true rfl) dX7_farmIs_2 (q := 5) rfl (ct_X7_isFarm) ?_
  refine j_ifneB dX7_farmIs_5 (t := 14) (by decide) (q := 8) rfl (fun c_5 => ?_) (fun c_5 => ?_)
  · skip
    refine j_aload_n dX7_farmIs_14 (q := 15) rfl rfl ?_
    refine j_getR (r := 8) fs_X7_10 rfl rfl rfl dX7_farmIs_15 (q := 18) rfl ?_
    refine j_getR (r := 9) fs_X7_69 rfl rfl rfl dX7_farmIs_18 (q := 21) rfl ?_
    refine j_iload_n dX7_farmIs_21 (q := 22) rfl rfl ?_
    refine j_aaldN rfl (by omega) (rf_farm (by omega)) dX7_farmIs_22 (q := 23) rfl ?_
    refine j_astore_n_4_3 dX7_farmIs_23 (q := 24) rfl rfl rfl ?_
    refine j_iload_n dX7_farmIs_24 (q := 25) rfl rfl ?_
    refine j_tsw_0_7 dX7_farmIs_25 (td := 131) (t0 := 72) (t1 := 77) (t2 := 82) (t3 := 87) (t4 := 92) (t5 := 97) (t6 := 102) (t7 := 122) (by decide) (by decide) (by decide) (by decide) (by decide) (by decide) (by decide) (by decide) (by decide) (fun e_25 => ?_) (fun e_25 => ?_) (fun e_25 => ?_) (fun e_25 => ?_) (fun e_25 => ?_) (fun e_25 => ?_) (fun e_25 => ?_) (fun e_25 => ?_) (fun e_25_0 e_25_1 e_25_2 e_25_3 e_25_4 e_25_5 e_25_6 e_25_7 => ?_)
    · skip
      exact absurd e_25 (by decide)
    · skip
      exact absurd e_25 (by decide)
    · skip
      exact absurd e_25 (by decide)
    · skip
      exact absurd e_25 (by decide)
    · skip
      exact absurd e_25 (by decide)
    · skip
      exact absurd e_25 (by decide)
    · skip
      exact absurd e_25 (by decide)
    · skip
      refine j_aload_n dX7_farmIs_122 (q := 123) rfl rfl ?_
      refine j_getR (r := 8) fs_X7_10 rfl rfl rfl dX7_farmIs_123 (q := 126) rfl ?_
      refine j_aload_n dX7_farmIs_126 (q := 127) rfl rfl ?_
      refine j_callVi1 (M' := M_X6_payOf) lk_X7_107 mv_X6_payOf ob_8 (by decide) (Nat.le_of_ble_eq_true rfl) dX7_farmIs_127 (q := 130) rfl (ct_X6_payOf (tC_farm (by omega)) hT hR) ?_
      intro x1 τ1 hz
      obtain ⟨z1, hF⟩ := hz
      cases z1
      refine j_ireti dX7_farmIs_130 rfl ?_
      exact ⟨rfl, hF⟩
    · skip
      exact absurd rfl e_25_7
  · skip
    exact absurd (inF hn h7 e) c_5
theorem ct_X8_farmIs_no {g : GT} {σ : S_} {f x : Int32} (h : ¬ ((0 ≤ f ∧ f ≤ σ 71 5 - 1) ∧ (0 ≤ x ∧ x ≤ 7))) : CT g 2 M_X8_farmIs [.ref 70, .int f, .int x] σ (EQ (.int (-1000000001)) (rfm σ 1)) := by
  refine ct_of [.ref 70, .int f, .int x] pn_X8_farmIs rfl (Nat.le_of_ble_eq_true rfl) ?_
  refine j_aload_n dX8_farmIs_0 (q := 1) rfl rfl ?_
  refine j_iload_n dX8_farmIs_1 (q := 2) rfl rfl ?_
  refine j_callVi1E (M' := M_X8_isFarm) lk_X8_166 mv_X8_isFarm ob_70 (by decide) (Nat.le_of_ble_eq_true rfl) dX8_farmIs_2 (q := 5) rfl (ct_X8_isFarm) ?_
  refine j_ifeqB dX8_farmIs_5 (t := 18) (by decide) (q := 8) rfl (fun c_5 => ?_) (fun c_5 => ?_)
  · skip
    refine j_iload_n dX8_farmIs_8 (q := 9) rfl rfl ?_
    refine j_iconst (v := 0) dX8_farmIs_9 (q := 10) rfl (by decide) ?_
    refine j_bipush (v := 7) dX8_farmIs_10 (q := 12) rfl (by decide) ?_
    refine j_callSi3E (M' := M_X8_in) lk_X8_59 ms_X8_in (by decide) (Nat.le_of_ble_eq_true rfl) dX8_farmIs_12 (q := 15) rfl (ct_X8_in) ?_
    refine j_ifneB dX8_farmIs_15 (t := 24) (by decide) (q := 18) rfl (fun c_15 => ?_) (fun c_15 => ?_)
    · skip
      exact absurd ⟨c_5, c_15⟩ h
    · skip
      refine j_aload_n dX8_farmIs_18 (q := 19) rfl rfl ?_
      refine j_iconst (v := 1) dX8_farmIs_19 (q := 20) rfl (by decide) ?_
      refine j_callVi1E (M' := M_X8_error) lk_X8_63 mv_X8_error ob_70 (by decide) (Nat.le_of_ble_eq_true rfl) dX8_farmIs_20 (q := 23) rfl (ct_err1) ?_
      refine j_ireti dX8_farmIs_23 rfl ?_
      exact ⟨rfl, rfl⟩
  · skip
    refine j_aload_n dX8_farmIs_18 (q := 19) rfl rfl ?_
    refine j_iconst (v := 1) dX8_farmIs_19 (q := 20) rfl (by decide) ?_
    refine j_callVi1E (M' := M_X8_error) lk_X8_63 mv_X8_error ob_70 (by decide) (Nat.le_of_ble_eq_true rfl) dX8_farmIs_20 (q := 23) rfl (ct_err1) ?_
    refine j_ireti dX8_farmIs_23 rfl ?_
    exact ⟨rfl, rfl⟩
theorem ct_X8_farmIs_its {g : GT} {σ : S_} {n nf : Nat} (hn : n < nf) (h7 : nf ≤ 7) (e : σ 71 5 = nI nf) {k : Nat} (hk : k < 6) : CT g 2 M_X8_farmIs [.ref 70, .int (nI n), .int (nI k)] σ (EQ (.int (σ 71 (10 + 6 * n + k))) σ) := by
  refine ct_of [.ref 70, .int (nI n), .int (nI k)] pn_X8_farmIs rfl (Nat.le_of_ble_eq_true rfl) ?_
  refine j_aload_n dX8_farmIs_0 (q := 1) rfl rfl ?_
  refine j_iload_n dX8_farmIs_1 (q := 2) rfl rfl ?_
  refine j_callVi1E (M' := M_X8_isFarm) lk_X8_166 mv_X8_isFarm ob_70 (by decide) (Nat.le_of_ble_eq_true rfl) dX8_farmIs_2 (q := 5) rfl (ct_X8_isFarm) ?_
  refine j_ifeqB dX8_farmIs_5 (t := 18) (by decide) (q := 8) rfl (fun c_5 => ?_) (fun c_5 => ?_)
  · skip
    refine j_iload_n dX8_farmIs_8 (q := 9) rfl rfl ?_
    refine j_iconst (v := 0) dX8_farmIs_9 (q := 10) rfl (by decide) ?_
    refine j_bipush (v := 7) dX8_farmIs_10 (q := 12) rfl (by decide) ?_
    refine j_callSi3E (M' := M_X8_in) lk_X8_59 ms_X8_in (by decide) (Nat.le_of_ble_eq_true rfl) dX8_farmIs_12 (q := 15) rfl (ct_X8_in) ?_
    refine j_ifneB dX8_farmIs_15 (t := 24) (by decide) (q := 18) rfl (fun c_15 => ?_) (fun c_15 => ?_)
    · skip
      refine j_iload_n dX8_farmIs_24 (q := 25) rfl rfl ?_
      refine j_bipush (v := 6) dX8_farmIs_25 (q := 27) rfl (by decide) ?_
      refine j_icmp_geN (b := 6) (by omega) (by omega) dX8_farmIs_27 (t := 39) (by decide) (q := 30) rfl (fun c_27 => ?_) (fun c_27 => ?_)
      · skip
        omega
      · skip
        refine j_aload_n dX8_farmIs_30 (q := 31) rfl rfl ?_
        refine j_iload_n dX8_farmIs_31 (q := 32) rfl rfl ?_
        refine j_iload_n dX8_farmIs_32 (q := 33) rfl rfl ?_
        refine j_callVi2E (M' := M_X8_its) lk_X8_123 mv_X8_its ob_70 (by decide) (Nat.le_of_ble_eq_true rfl) dX8_farmIs_33 (q := 36) rfl (ct_X8_its (by omega) hk) ?_
        refine j_goto (q := 58) dX8_farmIs_36 (by decide) ?_
        refine j_ireti dX8_farmIs_58 rfl ?_
        exact ⟨rfl, rfl⟩
    · skip
      exact absurd (inK (b := 7) (by omega) (by decide)) c_15
  · skip
    exact absurd (inF hn h7 e) c_5
theorem ct_X8_farmIs_6 {g : GT} {σ : S_} {n nf : Nat} (hn : n < nf) (h7 : nf ≤ 7) (e : σ 71 5 = nI nf) (hT : TOK (σ 71) 0) : CT g 4 M_X8_farmIs [.ref 70, .int (nI n), .int 6] σ (fun r τ => r = .int (growT (σ 71) (growF (σ 71 (10 + 6 * n)) (σ 71 (10 + 6 * n + 1)) (σ 71 (10 + 6 * n + 3)) (σ 71 0)) (σ 71 (10 + 6 * n + 4)) (remF (σ 71 0) 24)) ∧ ∀ x, x ≠ 76 → x ≠ 77 → τ x = σ x) := by
  refine ct_of [.ref 70, .int (nI n), .int 6] pn_X8_farmIs rfl (Nat.le_of_ble_eq_true rfl) ?_
  refine j_aload_n dX8_farmIs_0 (q := 1) rfl rfl ?_
  refine j_iload_n dX8_farmIs_1 (q := 2) rfl rfl ?_
  refine j_callVi1E (M' := M_X8_isFarm) lk_X8_166 mv_X8_isFarm ob_70 (by decide) (Nat.le_of_ble_eq_true rfl) dX8_farmIs_2 (q := 5) rfl (ct_X8_isFarm) ?_
  refine j_ifeqB dX8_farmIs_5 (t := 18) (by decide) (q := 8) rfl (fun c_5 => ?_) (fun c_5 => ?_)
  · skip
    refine j_iload_n dX8_farmIs_8 (q := 9) rfl rfl ?_
    refine j_iconst (v := 0) dX8_farmIs_9 (q := 10) rfl (by decide) ?_
    refine j_bipush (v := 7) dX8_farmIs_10 (q := 12) rfl (by decide) ?_
    refine j_callSi3E (M' := M_X8_in) lk_X8_59 ms_X8_in (by decide) (Nat.le_of_ble_eq_true rfl) dX8_farmIs_12 (q := 15) rfl (ct_X8_in) ?_
    refine j_ifneB dX8_farmIs_15 (t := 24) (by decide) (q := 18) rfl (fun c_15 => ?_) (fun c_15 => ?_)
    · skip
      refine j_iload_n dX8_farmIs_24 (q := 25) rfl rfl ?_
      refine j_bipush (v := 6) dX8_farmIs_25 (q := 27) rfl (by decide) ?_
      refine j_icmp_ge dX8_farmIs_27 (t := 39) (by decide) (q := 30) rfl (fun c_27 => ?_) (fun c_27 => ?_)
      · skip
        refine j_iload_n dX8_farmIs_39 (q := 40) rfl rfl ?_
        refine j_bipush (v := 6) dX8_farmIs_40 (q := 42) rfl (by decide) ?_
        refine j_icmp_ne dX8_farmIs_42 (t := 53) (by decide) (q := 45) rfl (fun c_42 => ?_) (fun c_42 => ?_)
        · skip
          exact absurd c_42 (by decide)
        · skip
          refine j_aload_n dX8_farmIs_45 (q := 46) rfl rfl ?_
          refine j_iload_n dX8_farmIs_46 (q := 47) rfl rfl ?_
          refine j_callVi1 (M' := M_X8_growthOf) lk_X8_145 mv_X8_growthOf ob_70 (by decide) (Nat.le_of_ble_eq_true rfl) dX8_farmIs_47 (q := 50) rfl (ct_X8_growthOf (by omega) hT) ?_
          intro x1 τ1 hz
          obtain ⟨z1, hF⟩ := hz
          cases z1
          refine j_goto (q := 58) dX8_farmIs_50 (by decide) ?_
          refine j_ireti dX8_farmIs_58 rfl ?_
          exact ⟨rfl, hF⟩
      · skip
        exact absurd c_27 (by decide)
    · skip
      exact absurd (by decide) c_15
  · skip
    exact absurd (inF hn h7 e) c_5
theorem ct_X8_farmIs_7 {g : GT} {σ : S_} {n nf : Nat} (hn : n < nf) (h7 : nf ≤ 7) (e : σ 71 5 = nI nf) (hT : TOK (σ 71) 1) : CT g 4 M_X8_farmIs [.ref 70, .int (nI n), .int 7] σ (fun r τ => r = .int (payT (σ 71) (paysF (σ 71 (10 + 6 * n)) (σ 71 (10 + 6 * n + 3)) (σ 71 (10 + 6 * n + 4) + σ 71 (10 + 6 * n + 2))) (σ 71 (10 + 6 * n + 4)) (σ 71 (10 + 6 * n + 2))) ∧ ∀ x, x ≠ 76 → x ≠ 77 → τ x = σ x) := by
  refine ct_of [.ref 70, .int (nI n), .int 7] pn_X8_farmIs rfl (Nat.le_of_ble_eq_true rfl) ?_
  refine j_aload_n dX8_farmIs_0 (q := 1) rfl rfl ?_
  refine j_iload_n dX8_farmIs_1 (q := 2) rfl rfl ?_
  refine j_callVi1E (M' := M_X8_isFarm) lk_X8_166 mv_X8_isFarm ob_70 (by decide) (Nat.le_of_ble_eq_true rfl) dX8_farmIs_2 (q := 5) rfl (ct_X8_isFarm) ?_
  refine j_ifeqB dX8_farmIs_5 (t := 18) (by decide) (q := 8) rfl (fun c_5 => ?_) (fun c_5 => ?_)
  · skip
    refine j_iload_n dX8_farmIs_8 (q := 9) rfl rfl ?_
    refine j_iconst (v := 0) dX8_farmIs_9 (q := 10) rfl (by decide) ?_
    refine j_bipush (v := 7) dX8_farmIs_10 (q := 12) rfl (by decide) ?_
    refine j_callSi3E (M' := M_X8_in) lk_X8_59 ms_X8_in (by decide) (Nat.le_of_ble_eq_true rfl) dX8_farmIs_12 (q := 15) rfl (ct_X8_in) ?_
    refine j_ifneB dX8_farmIs_15 (t := 24) (by decide) (q := 18) rfl (fun c_15 => ?_) (fun c_15 => ?_)
    · skip
      refine j_iload_n dX8_farmIs_24 (q := 25) rfl rfl ?_
      refine j_bipush (v := 6) dX8_farmIs_25 (q := 27) rfl (by decide) ?_
      refine j_icmp_ge dX8_farmIs_27 (t := 39) (by decide) (q := 30) rfl (fun c_27 => ?_) (fun c_27 => ?_)
      · skip
        refine j_iload_n dX8_farmIs_39 (q := 40) rfl rfl ?_
        refine j_bipush (v := 6) dX8_farmIs_40 (q := 42) rfl (by decide) ?_
        refine j_icmp_ne dX8_farmIs_42 (t := 53) (by decide) (q := 45) rfl (fun c_42 => ?_) (fun c_42 => ?_)
        · skip
          refine j_aload_n dX8_farmIs_53 (q := 54) rfl rfl ?_
          refine j_iload_n dX8_farmIs_54 (q := 55) rfl rfl ?_
          refine j_callVi1 (M' := M_X8_payOf) lk_X8_160 mv_X8_payOf ob_70 (by decide) (Nat.le_of_ble_eq_true rfl) dX8_farmIs_55 (q := 58) rfl (ct_X8_payOf (by omega) hT) ?_
          intro x1 τ1 hz
          obtain ⟨z1, hF⟩ := hz
          cases z1
          refine j_ireti dX8_farmIs_58 rfl ?_
          exact ⟨rfl, hF⟩
        · skip
          exact absurd c_42 (by decide)
      · skip
        exact absurd c_27 (by decide)
    · skip
      exact absurd (by decide) c_15
  · skip
    exact absurd (inF hn h7 e) c_5
