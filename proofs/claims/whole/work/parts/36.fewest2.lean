theorem ct_X7_fewest_no {g : GT} {σ : S_} {m f : Int32} (h : ¬ ((0 ≤ m ∧ m ≤ 99) ∧ (-1 ≤ f ∧ f ≤ 6))) : CT g 2 M_X7_fewest [.ref 0, .int m, .int f] σ (EQ (.int (-1000000001)) (rfz σ 1)) := by
  refine ct_of [.ref 0, .int m, .int f, .null] pn_X7_fewest rfl (Nat.le_of_ble_eq_true rfl) ?_
  refine j_iload_n dX7_fewest_0 (q := 1) rfl rfl ?_
  refine j_iconst (v := 0) dX7_fewest_1 (q := 2) rfl (by decide) ?_
  refine j_bipush (v := 99) dX7_fewest_2 (q := 4) rfl (by decide) ?_
  refine j_callSi3E (M' := M_X7_within) lk_X7_57 ms_X7_within (by decide) (Nat.le_of_ble_eq_true rfl) dX7_fewest_4 (q := 7) rfl (ct_X7_within) ?_
  refine j_ifeqB dX7_fewest_7 (t := 20) (by decide) (q := 10) rfl (fun c_7 => ?_) (fun c_7 => ?_)
  · skip
    refine j_iload_n dX7_fewest_10 (q := 11) rfl rfl ?_
    refine j_iconst (v := (-1)) dX7_fewest_11 (q := 12) rfl (by decide) ?_
    refine j_bipush (v := 6) dX7_fewest_12 (q := 14) rfl (by decide) ?_
    refine j_callSi3E (M' := M_X7_within) lk_X7_57 ms_X7_within (by decide) (Nat.le_of_ble_eq_true rfl) dX7_fewest_14 (q := 17) rfl (ct_X7_within) ?_
    refine j_ifneB dX7_fewest_17 (t := 26) (by decide) (q := 20) rfl (fun c_17 => ?_) (fun c_17 => ?_)
    · skip
      exact absurd ⟨c_7, c_17⟩ h
    · skip
      refine j_aload_n dX7_fewest_20 (q := 21) rfl rfl ?_
      refine j_iconst (v := 1) dX7_fewest_21 (q := 22) rfl (by decide) ?_
      refine j_callVi1E (M' := M_X7_refuse) lk_X7_61 mv_X7_refuse ob_0 (by decide) (Nat.le_of_ble_eq_true rfl) dX7_fewest_22 (q := 25) rfl (ct_ref1) ?_
      refine j_ireti dX7_fewest_25 rfl ?_
      exact ⟨rfl, rfl⟩
  · skip
    refine j_aload_n dX7_fewest_20 (q := 21) rfl rfl ?_
    refine j_iconst (v := 1) dX7_fewest_21 (q := 22) rfl (by decide) ?_
    refine j_callVi1E (M' := M_X7_refuse) lk_X7_61 mv_X7_refuse ob_0 (by decide) (Nat.le_of_ble_eq_true rfl) dX7_fewest_22 (q := 25) rfl (ct_ref1) ?_
    refine j_ireti dX7_fewest_25 rfl ?_
    exact ⟨rfl, rfl⟩
theorem ct_X8_fewest_no {g : GT} {σ : S_} {m f : Int32} (h : ¬ ((0 ≤ m ∧ m ≤ 99) ∧ (-1 ≤ f ∧ f ≤ 6))) : CT g 2 M_X8_fewest [.ref 70, .int m, .int f] σ (EQ (.int (-1000000001)) (rfm σ 1)) := by
  refine ct_of [.ref 70, .int m, .int f, .null] pn_X8_fewest rfl (Nat.le_of_ble_eq_true rfl) ?_
  refine j_iload_n dX8_fewest_0 (q := 1) rfl rfl ?_
  refine j_iconst (v := 0) dX8_fewest_1 (q := 2) rfl (by decide) ?_
  refine j_bipush (v := 99) dX8_fewest_2 (q := 4) rfl (by decide) ?_
  refine j_callSi3E (M' := M_X8_in) lk_X8_59 ms_X8_in (by decide) (Nat.le_of_ble_eq_true rfl) dX8_fewest_4 (q := 7) rfl (ct_X8_in) ?_
  refine j_ifeqB dX8_fewest_7 (t := 20) (by decide) (q := 10) rfl (fun c_7 => ?_) (fun c_7 => ?_)
  · skip
    refine j_iload_n dX8_fewest_10 (q := 11) rfl rfl ?_
    refine j_iconst (v := (-1)) dX8_fewest_11 (q := 12) rfl (by decide) ?_
    refine j_bipush (v := 6) dX8_fewest_12 (q := 14) rfl (by decide) ?_
    refine j_callSi3E (M' := M_X8_in) lk_X8_59 ms_X8_in (by decide) (Nat.le_of_ble_eq_true rfl) dX8_fewest_14 (q := 17) rfl (ct_X8_in) ?_
    refine j_ifneB dX8_fewest_17 (t := 26) (by decide) (q := 20) rfl (fun c_17 => ?_) (fun c_17 => ?_)
    · skip
      exact absurd ⟨c_7, c_17⟩ h
    · skip
      refine j_aload_n dX8_fewest_20 (q := 21) rfl rfl ?_
      refine j_iconst (v := 1) dX8_fewest_21 (q := 22) rfl (by decide) ?_
      refine j_callVi1E (M' := M_X8_error) lk_X8_63 mv_X8_error ob_70 (by decide) (Nat.le_of_ble_eq_true rfl) dX8_fewest_22 (q := 25) rfl (ct_err1) ?_
      refine j_ireti dX8_fewest_25 rfl ?_
      exact ⟨rfl, rfl⟩
  · skip
    refine j_aload_n dX8_fewest_20 (q := 21) rfl rfl ?_
    refine j_iconst (v := 1) dX8_fewest_21 (q := 22) rfl (by decide) ?_
    refine j_callVi1E (M' := M_X8_error) lk_X8_63 mv_X8_error ob_70 (by decide) (Nat.le_of_ble_eq_true rfl) dX8_fewest_22 (q := 25) rfl (ct_err1) ?_
    refine j_ireti dX8_fewest_25 rfl ?_
    exact ⟨rfl, rfl⟩
theorem ct_X7_fewest_none {g : GT} {σ : S_} {t : Nat → Int32} {nf nc m : Nat} {D B : Nat → Nat} (hn : t 5 = nI nf) (h7 : nf ≤ 7) (hcn : t 6 = nI nc) (h4 : nc ≤ 4) (hm : m ≤ 99) (hN : NB t nf nc D B) (hC : CW σ 8 t) {f : Int32} (hf : -1 ≤ f ∧ f ≤ 6) (h5 : (fewP nf nc m D B).1 = 5) : CT g 11 M_X7_fewest [.ref 0, .int (nI m), .int f] σ (fun r τ => r = .int (-1000000002) ∧ ∃ τ1, τ = rfz τ1 2 ∧ ∀ x, x < 3 ∨ 8 ≤ x → τ1 x = σ x) := by
  refine ct_of [.ref 0, .int (nI m), .int f, .null] pn_X7_fewest rfl (Nat.le_of_ble_eq_true rfl) ?_
  refine j_iload_n dX7_fewest_0 (q := 1) rfl rfl ?_
  refine j_iconst (v := 0) dX7_fewest_1 (q := 2) rfl (by decide) ?_
  refine j_bipush (v := 99) dX7_fewest_2 (q := 4) rfl (by decide) ?_
  refine j_callSi3E (M' := M_X7_within) lk_X7_57 ms_X7_within (by decide) (Nat.le_of_ble_eq_true rfl) dX7_fewest_4 (q := 7) rfl (ct_X7_within) ?_
  refine j_ifeqB dX7_fewest_7 (t := 20) (by decide) (q := 10) rfl (fun c_7 => ?_) (fun c_7 => ?_)
  · skip
    refine j_iload_n dX7_fewest_10 (q := 11) rfl rfl ?_
    refine j_iconst (v := (-1)) dX7_fewest_11 (q := 12) rfl (by decide) ?_
    refine j_bipush (v := 6) dX7_fewest_12 (q := 14) rfl (by decide) ?_
    refine j_callSi3E (M' := M_X7_within) lk_X7_57 ms_X7_within (by decide) (Nat.le_of_ble_eq_true rfl) dX7_fewest_14 (q := 17) rfl (ct_X7_within) ?_
    refine j_ifneB dX7_fewest_17 (t := 26) (by decide) (q := 20) rfl (fun c_17 => ?_) (fun c_17 => ?_)
    · skip
      refine j_aload_n dX7_fewest_26 (q := 27) rfl rfl ?_
      refine j_getR (r := 3) fs_X7_24 rfl rfl rfl dX7_fewest_27 (q := 30) rfl ?_
      refine j_iload_n dX7_fewest_30 (q := 31) rfl rfl ?_
      refine j_callVi1 (M' := M_X4_fewestCarriers) lk_X7_219 mv_X4_fewestCarriers ob_3 (by decide) (Nat.le_of_ble_eq_true rfl) dX7_fewest_31 (q := 34) rfl (ct_X4_fewestCarriers hn h7 hcn h4 hm hN hC) ?_
      intro x1 τ1 hz
      obtain ⟨x2, hx2, hz2⟩ := hz
      cases hx2
      obtain ⟨hx, hbw, hb1, hO⟩ := hz2
      subst hx
      rw [show (if 4 < (fewP nf nc m D B).1 then (-1 : Int32) else nI (fewP nf nc m D B).1) = -1 from if_pos (by omega)]
      refine j_istore_n_4_3 dX7_fewest_34 (q := 35) rfl rfl rfl ?_
      refine j_iload_n dX7_fewest_35 (q := 36) rfl rfl ?_
      refine j_if_ge dX7_fewest_36 (t := 45) (by decide) (q := 39) rfl (fun c_36 => ?_) (fun c_36 => ?_)
      · skip
        exact absurd c_36 (by decide)
      · skip
        refine j_aload_n dX7_fewest_39 (q := 40) rfl rfl ?_
        refine j_iconst (v := 2) dX7_fewest_40 (q := 41) rfl (by decide) ?_
        refine j_callVi1E (M' := M_X7_refuse) lk_X7_61 mv_X7_refuse ob_0 (by decide) (Nat.le_of_ble_eq_true rfl) dX7_fewest_41 (q := 44) rfl (ct_ref2) ?_
        refine j_ireti dX7_fewest_44 rfl ?_
        exact ⟨rfl, τ1, rfl, hO⟩
    · skip
      exact absurd hf c_17
  · skip
    exact absurd (inK (b := 99) (by omega) (by decide)) c_7
theorem ct_X7_fewest_neg {g : GT} {σ : S_} {t : Nat → Int32} {nf nc m : Nat} {D B : Nat → Nat} (hn : t 5 = nI nf) (h7 : nf ≤ 7) (hcn : t 6 = nI nc) (h4 : nc ≤ 4) (hm : m ≤ 99) (hN : NB t nf nc D B) (hC : CW σ 8 t) (h5 : (fewP nf nc m D B).1 ≤ 4) : CT g 11 M_X7_fewest [.ref 0, .int (nI m), .int (-1)] σ (fun r τ => r = .int (nI (fewP nf nc m D B).1) ∧ ∀ x, x < 3 ∨ 8 ≤ x → τ x = σ x) := by
  refine ct_of [.ref 0, .int (nI m), .int (-1), .null] pn_X7_fewest rfl (Nat.le_of_ble_eq_true rfl) ?_
  refine j_iload_n dX7_fewest_0 (q := 1) rfl rfl ?_
  refine j_iconst (v := 0) dX7_fewest_1 (q := 2) rfl (by decide) ?_
  refine j_bipush (v := 99) dX7_fewest_2 (q := 4) rfl (by decide) ?_
  refine j_callSi3E (M' := M_X7_within) lk_X7_57 ms_X7_within (by decide) (Nat.le_of_ble_eq_true rfl) dX7_fewest_4 (q := 7) rfl (ct_X7_within) ?_
  refine j_ifeqB dX7_fewest_7 (t := 20) (by decide) (q := 10) rfl (fun c_7 => ?_) (fun c_7 => ?_)
  · skip
    refine j_iload_n dX7_fewest_10 (q := 11) rfl rfl ?_
    refine j_iconst (v := (-1)) dX7_fewest_11 (q := 12) rfl (by decide) ?_
    refine j_bipush (v := 6) dX7_fewest_12 (q := 14) rfl (by decide) ?_
    refine j_callSi3E (M' := M_X7_within) lk_X7_57 ms_X7_within (by decide) (Nat.le_of_ble_eq_true rfl) dX7_fewest_14 (q := 17) rfl (ct_X7_within) ?_
    refine j_ifneB dX7_fewest_17 (t := 26) (by decide) (q := 20) rfl (fun c_17 => ?_) (fun c_17 => ?_)
    · skip
      refine j_aload_n dX7_fewest_26 (q := 27) rfl rfl ?_
      refine j_getR (r := 3) fs_X7_24 rfl rfl rfl dX7_fewest_27 (q := 30) rfl ?_
      refine j_iload_n dX7_fewest_30 (q := 31) rfl rfl ?_
      refine j_callVi1 (M' := M_X4_fewestCarriers) lk_X7_219 mv_X4_fewestCarriers ob_3 (by decide) (Nat.le_of_ble_eq_true rfl) dX7_fewest_31 (q := 34) rfl (ct_X4_fewestCarriers hn h7 hcn h4 hm hN hC) ?_
      intro x1 τ1 hz
      obtain ⟨x2, hx2, hz2⟩ := hz
      cases hx2
      obtain ⟨hx, hbw, hb1, hO⟩ := hz2
      subst hx
      rw [show (if 4 < (fewP nf nc m D B).1 then (-1 : Int32) else nI (fewP nf nc m D B).1) = nI (fewP nf nc m D B).1 from if_neg (by omega)]
      refine j_istore_n_4_3 dX7_fewest_34 (q := 35) rfl rfl rfl ?_
      refine j_iload_n dX7_fewest_35 (q := 36) rfl rfl ?_
      refine j_if_geN (by omega) dX7_fewest_36 (t := 45) (by decide) (q := 39) rfl (fun c_36 => ?_) (fun c_36 => ?_)
      · skip
        refine j_iload_n dX7_fewest_45 (q := 46) rfl rfl ?_
        refine j_if_ge dX7_fewest_46 (t := 53) (by decide) (q := 49) rfl (fun c_46 => ?_) (fun c_46 => ?_)
        · skip
          exact absurd c_46 (by decide)
        · skip
          refine j_iload_n dX7_fewest_49 (q := 50) rfl rfl ?_
          refine j_goto (q := 61) dX7_fewest_50 (by decide) ?_
          refine j_ireti dX7_fewest_61 rfl ?_
          exact ⟨rfl, hO⟩
      · skip
        omega
    · skip
      exact absurd (by decide) c_17
  · skip
    exact absurd (inK (b := 99) (by omega) (by decide)) c_7
theorem ct_X7_fewest_at {g : GT} {σ : S_} {t : Nat → Int32} {nf nc m : Nat} {D B : Nat → Nat} (hn : t 5 = nI nf) (h7 : nf ≤ 7) (hcn : t 6 = nI nc) (h4 : nc ≤ 4) (hm : m ≤ 99) (hN : NB t nf nc D B) (hC : CW σ 8 t) {f : Nat} (hf : f < 7) (h5 : (fewP nf nc m D B).1 ≤ 4) : CT g 11 M_X7_fewest [.ref 0, .int (nI m), .int (nI f)] σ (fun r τ => r = .int (if f < nf then (fewP nf nc m D B).2 f else -1) ∧ ∀ x, x < 3 ∨ 8 ≤ x → τ x = σ x) := by
  refine ct_of [.ref 0, .int (nI m), .int (nI f), .null] pn_X7_fewest rfl (Nat.le_of_ble_eq_true rfl) ?_
  refine j_iload_n dX7_fewest_0 (q := 1) rfl rfl ?_
  refine j_iconst (v := 0) dX7_fewest_1 (q := 2) rfl (by decide) ?_
  refine j_bipush (v := 99) dX7_fewest_2 (q := 4) rfl (by decide) ?_
  refine j_callSi3E (M' := M_X7_within) lk_X7_57 ms_X7_within (by decide) (Nat.le_of_ble_eq_true rfl) dX7_fewest_4 (q := 7) rfl (ct_X7_within) ?_
  refine j_ifeqB dX7_fewest_7 (t := 20) (by decide) (q := 10) rfl (fun c_7 => ?_) (fun c_7 => ?_)
  · skip
    refine j_iload_n dX7_fewest_10 (q := 11) rfl rfl ?_
    refine j_iconst (v := (-1)) dX7_fewest_11 (q := 12) rfl (by decide) ?_
    refine j_bipush (v := 6) dX7_fewest_12 (q := 14) rfl (by decide) ?_
    refine j_callSi3E (M' := M_X7_within) lk_X7_57 ms_X7_within (by decide) (Nat.le_of_ble_eq_true rfl) dX7_fewest_14 (q := 17) rfl (ct_X7_within) ?_
    refine j_ifneB dX7_fewest_17 (t := 26) (by decide) (q := 20) rfl (fun c_17 => ?_) (fun c_17 => ?_)
    · skip
      refine j_aload_n dX7_fewest_26 (q := 27) rfl rfl ?_
      refine j_getR (r := 3) fs_X7_24 rfl rfl rfl dX7_fewest_27 (q := 30) rfl ?_
      refine j_iload_n dX7_fewest_30 (q := 31) rfl rfl ?_
      refine j_callVi1 (M' := M_X4_fewestCarriers) lk_X7_219 mv_X4_fewestCarriers ob_3 (by decide) (Nat.le_of_ble_eq_true rfl) dX7_fewest_31 (q := 34) rfl (ct_X4_fewestCarriers hn h7 hcn h4 hm hN hC) ?_
      intro x1 τ1 hz
      obtain ⟨x2, hx2, hz2⟩ := hz
      cases hx2
      obtain ⟨hx, hbw, hb1, hO⟩ := hz2
      subst hx
      rw [show (if 4 < (fewP nf nc m D B).1 then (-1 : Int32) else nI (fewP nf nc m D B).1) = nI (fewP nf nc m D B).1 from if_neg (by omega)]
      refine j_istore_n_4_3 dX7_fewest_34 (q := 35) rfl rfl rfl ?_
      refine j_iload_n dX7_fewest_35 (q := 36) rfl rfl ?_
      refine j_if_geN (by omega) dX7_fewest_36 (t := 45) (by decide) (q := 39) rfl (fun c_36 => ?_) (fun c_36 => ?_)
      · skip
        refine j_iload_n dX7_fewest_45 (q := 46) rfl rfl ?_
        refine j_if_geN (by omega) dX7_fewest_46 (t := 53) (by decide) (q := 49) rfl (fun c_46 => ?_) (fun c_46 => ?_)
        · skip
          refine j_aload_n dX7_fewest_53 (q := 54) rfl rfl ?_
          refine j_getR (r := 3) fs_X7_24 rfl rfl rfl dX7_fewest_54 (q := 57) rfl ?_
          refine j_iload_n dX7_fewest_57 (q := 58) rfl rfl ?_
          refine j_callVi1E (M' := M_X4_carrierOf) lk_X7_222 mv_X4_carrierOf ob_3 (by decide) (Nat.le_of_ble_eq_true rfl) dX7_fewest_58 (q := 61) rfl (ct_X4_carrierOf hf) ?_
          refine j_ireti dX7_fewest_61 rfl ?_
          refine ⟨congrArg Value.int ?_, hO⟩
          by_cases q : f < nf
          · rw [if_pos q]; exact hbw (by omega) f q
          · rw [if_neg q]; exact hb1 f (by omega) hf
        · skip
          omega
      · skip
        omega
    · skip
      exact absurd ⟨Int32.le_trans (by decide) (inK (b := 6) (by omega) (by decide) : (0 : Int32) ≤ nI f ∧ nI f ≤ nI 6).1, (inK (b := 6) (by omega) (by decide) : (0 : Int32) ≤ nI f ∧ nI f ≤ nI 6).2⟩ c_17
  · skip
    exact absurd (inK (b := 99) (by omega) (by decide)) c_7
