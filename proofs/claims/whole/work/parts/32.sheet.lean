theorem sb_loop {g : GT} {s : Nat} (hk4 : s < 4) {b n : Int32} {σ0 : S_} {Z : Value → S_ → Prop} (hZ : ∀ τ : S_, (∀ j, j < 24 → τ (63 + 2 * s) j = 0) → (∀ x, x ≠ 63 + 2 * s → τ x = σ0 x) → Z .null τ) : ∀ (k i : Nat) (σ : S_), i + k = 24 → (∀ j, j < i → σ (63 + 2 * s) j = 0) → (∀ x, x ≠ 63 + 2 * s → σ x = σ0 x) → J g 0 M_X2_begin Z 12 [.ref (62 + 2 * s), .int b, .int n, .int (nI i)] [] σ := by
  intro k
  induction k with
  | zero =>
    intro i σ hik h0 hO
    refine j_iload_n dX2_begin_12 (q := 13) rfl rfl ?_
    refine j_bipush (v := 24) dX2_begin_13 (q := 15) rfl (by decide) ?_
    refine j_icmp_geN (b := 24) (by omega) (by omega) dX2_begin_15 (t := 31) (by decide) (q := 18) rfl (fun c_15 => ?_) (fun c_15 => ?_)
    · skip
      refine j_vret dX2_begin_31 rfl ?_
      obtain rfl : i = 24 := by omega
      exact hZ σ h0 hO
    · skip
      omega
  | succ k ih =>
    intro i σ hik h0 hO
    refine j_iload_n dX2_begin_12 (q := 13) rfl rfl ?_
    refine j_bipush (v := 24) dX2_begin_13 (q := 15) rfl (by decide) ?_
    refine j_icmp_geN (b := 24) (by omega) (by omega) dX2_begin_15 (t := 31) (by decide) (q := 18) rfl (fun c_15 => ?_) (fun c_15 => ?_)
    · skip
      omega
    · skip
      refine j_aload_n dX2_begin_18 (q := 19) rfl rfl ?_
      refine j_getR (r := (63 + 2 * s)) fs_X2_9 (SH_o hk4) rfl (SH_r hk4) dX2_begin_19 (q := 22) rfl ?_
      refine j_iload_n dX2_begin_22 (q := 23) rfl rfl ?_
      refine j_iconst (v := 0) dX2_begin_23 (q := 24) rfl (by decide) ?_
      refine j_iastN (SH_a hk4) (by omega) dX2_begin_24 (q := 25) rfl ?_
      refine j_iincN_4_3 dX2_begin_25 (q := 28) rfl rfl rfl ?_
      refine j_goto (q := 12) dX2_begin_28 (by decide) ?_
      refine ih (i + 1) _ (by omega) (fun j hj => ?_) (fun x hx => (up_row hx).trans (hO x hx))
      by_cases e : j = i
      · subst e; exact up_at
      · rw [up_nk e]; exact h0 j (by omega)
theorem ct_X2_begin {g : GT} {σ : S_} {s : Nat} {b n : Int32} (hk4 : s < 4) : CT g 0 M_X2_begin [.ref (62 + 2 * s), .int b, .int n] σ (fun r τ => r = .null ∧ τ (62 + 2 * s) 1 = b ∧ τ (62 + 2 * s) 2 = n ∧ (∀ j, j < 24 → τ (63 + 2 * s) j = 0) ∧ ∀ x, x ≠ 62 + 2 * s → x ≠ 63 + 2 * s → τ x = σ x) := by
  refine ct_of [.ref (62 + 2 * s), .int b, .int n, .null] pn_X2_begin rfl (Nat.le_of_ble_eq_true rfl) ?_
  refine j_aload_n dX2_begin_0 (q := 1) rfl rfl ?_
  refine j_iload_n dX2_begin_1 (q := 2) rfl rfl ?_
  refine j_putI fs_X2_15 (SH_o hk4) rfl fp_2_1 dX2_begin_2 (q := 5) rfl ?_
  refine j_aload_n dX2_begin_5 (q := 6) rfl rfl ?_
  refine j_iload_n dX2_begin_6 (q := 7) rfl rfl ?_
  refine j_putI fs_X2_19 (SH_o hk4) rfl fp_2_2 dX2_begin_7 (q := 10) rfl ?_
  refine j_iconst (v := 0) dX2_begin_10 (q := 11) rfl (by decide) ?_
  refine j_istore_n_4_3 dX2_begin_11 (q := 12) rfl rfl rfl ?_
  exact sb_loop hk4 (σ0 := up (up σ (62 + 2 * s) 1 b) (62 + 2 * s) 2 n) (fun τ h1 h2 => ⟨rfl, by rw [h2 _ (by omega), up_nk (by decide), up_at], by rw [h2 _ (by omega), up_at], h1, fun x a c => (h2 x c).trans ((up_row a).trans (up_row a))⟩) 24 0 _ rfl (fun j hj => absurd hj (by omega)) (fun _ _ => rfl)
def wV (b v : Int32) : Int32 := if b = 8 then v.toInt8.toInt32 else if b = 16 then v.toInt16.toInt32 else v
theorem ct_X2_write {g : GT} {σ : S_} {s i : Nat} {v : Int32} (hk4 : s < 4) (hi : i < 24) : CT g 1 M_X2_write [.ref (62 + 2 * s), .int (nI i), .int v] σ (EQ .null (up σ (63 + 2 * s) i (wV (σ (62 + 2 * s) 1) v))) := by
  refine ct_of [.ref (62 + 2 * s), .int (nI i), .int v] pn_X2_write rfl (Nat.le_of_ble_eq_true rfl) ?_
  refine j_iload_n dX2_write_0 (q := 1) rfl rfl ?_
  refine j_iconst (v := 0) dX2_write_1 (q := 2) rfl (by decide) ?_
  refine j_bipush (v := 23) dX2_write_2 (q := 4) rfl (by decide) ?_
  refine j_callSi3E (M' := M_X7_within) lk_X2_22 ms_X7_within (by decide) (Nat.le_of_ble_eq_true rfl) dX2_write_4 (q := 7) rfl (ct_X7_within) ?_
  refine j_ifeqB dX2_write_7 (t := 45) (by decide) (q := 10) rfl (fun c_7 => ?_) (fun c_7 => ?_)
  · skip
    refine j_aload_n dX2_write_10 (q := 11) rfl rfl ?_
    refine j_getR (r := (63 + 2 * s)) fs_X2_9 (SH_o hk4) rfl (SH_r hk4) dX2_write_11 (q := 14) rfl ?_
    refine j_iload_n dX2_write_14 (q := 15) rfl rfl ?_
    refine j_aload_n dX2_write_15 (q := 16) rfl rfl ?_
    refine j_getI fs_X2_15 (SH_o hk4) rfl dX2_write_16 (q := 19) rfl ?_
    refine j_bipush (v := 8) dX2_write_19 (q := 21) rfl (by decide) ?_
    refine j_icmp_ne dX2_write_21 (t := 29) (by decide) (q := 24) rfl (fun c_21 => ?_) (fun c_21 => ?_)
    · skip
      refine j_aload_n dX2_write_29 (q := 30) rfl rfl ?_
      refine j_getI fs_X2_15 (SH_o hk4) rfl dX2_write_30 (q := 33) rfl ?_
      refine j_bipush (v := 16) dX2_write_33 (q := 35) rfl (by decide) ?_
      refine j_icmp_ne dX2_write_35 (t := 43) (by decide) (q := 38) rfl (fun c_35 => ?_) (fun c_35 => ?_)
      · skip
        refine j_iload_n dX2_write_43 (q := 44) rfl rfl ?_
        refine j_iastN (SH_a hk4) (by omega) dX2_write_44 (q := 45) rfl ?_
        refine j_vret dX2_write_45 rfl ?_
        exact ⟨rfl, by unfold wV; rw [if_neg c_21, if_neg c_35]⟩
      · skip
        refine j_iload_n dX2_write_38 (q := 39) rfl rfl ?_
        refine j_i2s dX2_write_39 (q := 40) rfl ?_
        refine j_goto (q := 44) dX2_write_40 (by decide) ?_
        refine j_iastN (SH_a hk4) (by omega) dX2_write_44 (q := 45) rfl ?_
        refine j_vret dX2_write_45 rfl ?_
        exact ⟨rfl, by unfold wV; rw [if_neg c_21, if_pos c_35]⟩
    · skip
      refine j_iload_n dX2_write_24 (q := 25) rfl rfl ?_
      refine j_i2b dX2_write_25 (q := 26) rfl ?_
      refine j_goto (q := 44) dX2_write_26 (by decide) ?_
      refine j_iastN (SH_a hk4) (by omega) dX2_write_44 (q := 45) rfl ?_
      refine j_vret dX2_write_45 rfl ?_
      exact ⟨rfl, by unfold wV; rw [if_pos c_21]⟩
  · skip
    exact absurd (inK (b := 23) (by omega) (by decide)) c_7
theorem ct_X7_sheet_no {g : GT} {σ : S_} {s b n : Int32} (h : ¬ ((0 ≤ s ∧ s ≤ 3) ∧ (b = 0 ∨ b = 8 ∨ b = 16 ∨ b = 32))) : CT g 2 M_X7_sheet [.ref 0, .int s, .int b, .int n] σ (EQ (.int (-1000000001)) (rfz σ 1)) := by
  refine ct_of [.ref 0, .int s, .int b, .int n] pn_X7_sheet rfl (Nat.le_of_ble_eq_true rfl) ?_
  refine j_iload_n dX7_sheet_0 (q := 1) rfl rfl ?_
  refine j_callSi1E (M' := M_X7_isSheet) lk_X7_242 ms_X7_isSheet (by decide) (Nat.le_of_ble_eq_true rfl) dX7_sheet_1 (q := 4) rfl (ct_X7_isSheet) ?_
  refine j_ifeqB dX7_sheet_4 (t := 29) (by decide) (q := 7) rfl (fun c_4 => ?_) (fun c_4 => ?_)
  · skip
    refine j_iload_n dX7_sheet_7 (q := 8) rfl rfl ?_
    refine j_if_eq dX7_sheet_8 (t := 35) (by decide) (q := 11) rfl (fun c_8 => ?_) (fun c_8 => ?_)
    · skip
      exact absurd ⟨c_4, Or.inl c_8⟩ h
    · skip
      refine j_iload_n dX7_sheet_11 (q := 12) rfl rfl ?_
      refine j_bipush (v := 8) dX7_sheet_12 (q := 14) rfl (by decide) ?_
      refine j_icmp_eq dX7_sheet_14 (t := 35) (by decide) (q := 17) rfl (fun c_14 => ?_) (fun c_14 => ?_)
      · skip
        exact absurd ⟨c_4, Or.inr (Or.inl c_14)⟩ h
      · skip
        refine j_iload_n dX7_sheet_17 (q := 18) rfl rfl ?_
        refine j_bipush (v := 16) dX7_sheet_18 (q := 20) rfl (by decide) ?_
        refine j_icmp_eq dX7_sheet_20 (t := 35) (by decide) (q := 23) rfl (fun c_20 => ?_) (fun c_20 => ?_)
        · skip
          exact absurd ⟨c_4, Or.inr (Or.inr (Or.inl c_20))⟩ h
        · skip
          refine j_iload_n dX7_sheet_23 (q := 24) rfl rfl ?_
          refine j_bipush (v := 32) dX7_sheet_24 (q := 26) rfl (by decide) ?_
          refine j_icmp_eq dX7_sheet_26 (t := 35) (by decide) (q := 29) rfl (fun c_26 => ?_) (fun c_26 => ?_)
          · skip
            exact absurd ⟨c_4, Or.inr (Or.inr (Or.inr c_26))⟩ h
          · skip
            refine j_aload_n dX7_sheet_29 (q := 30) rfl rfl ?_
            refine j_iconst (v := 1) dX7_sheet_30 (q := 31) rfl (by decide) ?_
            refine j_callVi1E (M' := M_X7_refuse) lk_X7_61 mv_X7_refuse ob_0 (by decide) (Nat.le_of_ble_eq_true rfl) dX7_sheet_31 (q := 34) rfl (ct_ref1) ?_
            refine j_ireti dX7_sheet_34 rfl ?_
            exact ⟨rfl, rfl⟩
  · skip
    refine j_aload_n dX7_sheet_29 (q := 30) rfl rfl ?_
    refine j_iconst (v := 1) dX7_sheet_30 (q := 31) rfl (by decide) ?_
    refine j_callVi1E (M' := M_X7_refuse) lk_X7_61 mv_X7_refuse ob_0 (by decide) (Nat.le_of_ble_eq_true rfl) dX7_sheet_31 (q := 34) rfl (ct_ref1) ?_
    refine j_ireti dX7_sheet_34 rfl ?_
    exact ⟨rfl, rfl⟩
theorem ct_X8_sheet_no {g : GT} {σ : S_} {s b n : Int32} (h : ¬ ((0 ≤ s ∧ s ≤ 3) ∧ (b = 0 ∨ b = 8 ∨ b = 16 ∨ b = 32))) : CT g 2 M_X8_sheet [.ref 70, .int s, .int b, .int n] σ (EQ (.int (-1000000001)) (rfm σ 1)) := by
  refine ct_of [.ref 70, .int s, .int b, .int n, .null] pn_X8_sheet rfl (Nat.le_of_ble_eq_true rfl) ?_
  refine j_iload_n dX8_sheet_0 (q := 1) rfl rfl ?_
  refine j_callSi1E (M' := M_X8_isSheet) lk_X8_252 ms_X8_isSheet (by decide) (Nat.le_of_ble_eq_true rfl) dX8_sheet_1 (q := 4) rfl (ct_X8_isSheet) ?_
  refine j_ifeqB dX8_sheet_4 (t := 29) (by decide) (q := 7) rfl (fun c_4 => ?_) (fun c_4 => ?_)
  · skip
    refine j_iload_n dX8_sheet_7 (q := 8) rfl rfl ?_
    refine j_if_eq dX8_sheet_8 (t := 35) (by decide) (q := 11) rfl (fun c_8 => ?_) (fun c_8 => ?_)
    · skip
      exact absurd ⟨c_4, Or.inl c_8⟩ h
    · skip
      refine j_iload_n dX8_sheet_11 (q := 12) rfl rfl ?_
      refine j_bipush (v := 8) dX8_sheet_12 (q := 14) rfl (by decide) ?_
      refine j_icmp_eq dX8_sheet_14 (t := 35) (by decide) (q := 17) rfl (fun c_14 => ?_) (fun c_14 => ?_)
      · skip
        exact absurd ⟨c_4, Or.inr (Or.inl c_14)⟩ h
      · skip
        refine j_iload_n dX8_sheet_17 (q := 18) rfl rfl ?_
        refine j_bipush (v := 16) dX8_sheet_18 (q := 20) rfl (by decide) ?_
        refine j_icmp_eq dX8_sheet_20 (t := 35) (by decide) (q := 23) rfl (fun c_20 => ?_) (fun c_20 => ?_)
        · skip
          exact absurd ⟨c_4, Or.inr (Or.inr (Or.inl c_20))⟩ h
        · skip
          refine j_iload_n dX8_sheet_23 (q := 24) rfl rfl ?_
          refine j_bipush (v := 32) dX8_sheet_24 (q := 26) rfl (by decide) ?_
          refine j_icmp_eq dX8_sheet_26 (t := 35) (by decide) (q := 29) rfl (fun c_26 => ?_) (fun c_26 => ?_)
          · skip
            exact absurd ⟨c_4, Or.inr (Or.inr (Or.inr c_26))⟩ h
          · skip
            refine j_aload_n dX8_sheet_29 (q := 30) rfl rfl ?_
            refine j_iconst (v := 1) dX8_sheet_30 (q := 31) rfl (by decide) ?_
            refine j_callVi1E (M' := M_X8_error) lk_X8_63 mv_X8_error ob_70 (by decide) (Nat.le_of_ble_eq_true rfl) dX8_sheet_31 (q := 34) rfl (ct_err1) ?_
            refine j_ireti dX8_sheet_34 rfl ?_
            exact ⟨rfl, rfl⟩
  · skip
    refine j_aload_n dX8_sheet_29 (q := 30) rfl rfl ?_
    refine j_iconst (v := 1) dX8_sheet_30 (q := 31) rfl (by decide) ?_
    refine j_callVi1E (M' := M_X8_error) lk_X8_63 mv_X8_error ob_70 (by decide) (Nat.le_of_ble_eq_true rfl) dX8_sheet_31 (q := 34) rfl (ct_err1) ?_
    refine j_ireti dX8_sheet_34 rfl ?_
    exact ⟨rfl, rfl⟩
theorem ct_X7_sheet_0 {g : GT} {σ : S_} {s : Nat} {n : Int32} (hk4 : s < 4) : CT g 2 M_X7_sheet [.ref 0, .int (nI s), .int 0, .int n] σ (fun r τ => r = .int 1 ∧ τ (62 + 2 * s) 1 = 0 ∧ τ (62 + 2 * s) 2 = 0 ∧ (∀ j, j < 24 → τ (63 + 2 * s) j = 0) ∧ ∀ x, x ≠ 62 + 2 * s → x ≠ 63 + 2 * s → τ x = σ x) := by
  refine ct_of [.ref 0, .int (nI s), .int 0, .int n] pn_X7_sheet rfl (Nat.le_of_ble_eq_true rfl) ?_
  refine j_iload_n dX7_sheet_0 (q := 1) rfl rfl ?_
  refine j_callSi1E (M' := M_X7_isSheet) lk_X7_242 ms_X7_isSheet (by decide) (Nat.le_of_ble_eq_true rfl) dX7_sheet_1 (q := 4) rfl (ct_X7_isSheet) ?_
  refine j_ifeqB dX7_sheet_4 (t := 29) (by decide) (q := 7) rfl (fun c_4 => ?_) (fun c_4 => ?_)
  · skip
    refine j_iload_n dX7_sheet_7 (q := 8) rfl rfl ?_
    refine j_if_eq dX7_sheet_8 (t := 35) (by decide) (q := 11) rfl (fun c_8 => ?_) (fun c_8 => ?_)
    · skip
      refine j_iload_n dX7_sheet_35 (q := 36) rfl rfl ?_
      refine j_if_ne dX7_sheet_36 (t := 52) (by decide) (q := 39) rfl (fun c_36 => ?_) (fun c_36 => ?_)
      · skip
        exact absurd c_36 (by decide)
      · skip
        refine j_aload_n dX7_sheet_39 (q := 40) rfl rfl ?_
        refine j_getR (r := 1) fs_X7_44 rfl rfl rfl dX7_sheet_40 (q := 43) rfl ?_
        refine j_iload_n dX7_sheet_43 (q := 44) rfl rfl ?_
        refine j_aaldN rfl (by omega) (SH_1 hk4) dX7_sheet_44 (q := 45) rfl ?_
        refine j_iconst (v := 0) dX7_sheet_45 (q := 46) rfl (by decide) ?_
        refine j_iconst (v := 0) dX7_sheet_46 (q := 47) rfl (by decide) ?_
        refine j_callVv2 (M' := M_X2_begin) lk_X7_266 mv_X2_begin (ob_of (SH_o hk4) rfl) (by decide) (Nat.le_of_ble_eq_true rfl) dX7_sheet_47 (q := 50) rfl (ct_X2_begin hk4) ?_
        intro τ1 hz
        obtain ⟨-, z1, z2, z3, z4⟩ := hz
        refine j_iconst (v := 1) dX7_sheet_50 (q := 51) rfl (by decide) ?_
        refine j_ireti dX7_sheet_51 rfl ?_
        exact ⟨rfl, z1, z2, z3, z4⟩
    · skip
      exact absurd c_8 (by decide)
  · skip
    exact absurd (inK (b := 3) (by omega) (by decide)) c_4
theorem ct_X7_sheet_neg {g : GT} {σ : S_} {s : Nat} {b n : Int32} (hk4 : s < 4) (hb : b = 8 ∨ b = 16 ∨ b = 32) (hn : n < 0) : CT g 2 M_X7_sheet [.ref 0, .int (nI s), .int b, .int n] σ (EQ (.int (-1000000003)) (rfz σ 3)) := by
  refine ct_of [.ref 0, .int (nI s), .int b, .int n] pn_X7_sheet rfl (Nat.le_of_ble_eq_true rfl) ?_
  refine j_iload_n dX7_sheet_0 (q := 1) rfl rfl ?_
  refine j_callSi1E (M' := M_X7_isSheet) lk_X7_242 ms_X7_isSheet (by decide) (Nat.le_of_ble_eq_true rfl) dX7_sheet_1 (q := 4) rfl (ct_X7_isSheet) ?_
  refine j_ifeqB dX7_sheet_4 (t := 29) (by decide) (q := 7) rfl (fun c_4 => ?_) (fun c_4 => ?_)
  · skip
    refine j_iload_n dX7_sheet_7 (q := 8) rfl rfl ?_
    refine j_if_eq dX7_sheet_8 (t := 35) (by decide) (q := 11) rfl (fun c_8 => ?_) (fun c_8 => ?_)
    · skip
      exact absurd c_8 (by rcases hb with rfl | rfl | rfl <;> decide)
    · skip
      refine j_iload_n dX7_sheet_11 (q := 12) rfl rfl ?_
      refine j_bipush (v := 8) dX7_sheet_12 (q := 14) rfl (by decide) ?_
      refine j_icmp_eq dX7_sheet_14 (t := 35) (by decide) (q := 17) rfl (fun c_14 => ?_) (fun c_14 => ?_)
      · skip
        refine j_iload_n dX7_sheet_35 (q := 36) rfl rfl ?_
        refine j_if_ne dX7_sheet_36 (t := 52) (by decide) (q := 39) rfl (fun c_36 => ?_) (fun c_36 => ?_)
        · skip
          refine j_iload_n dX7_sheet_52 (q := 53) rfl rfl ?_
          refine j_if_ge dX7_sheet_53 (t := 62) (by decide) (q := 56) rfl (fun c_53 => ?_) (fun c_53 => ?_)
          · skip
            exact absurd hn (Int32.not_lt.mpr c_53)
          · skip
            refine j_aload_n dX7_sheet_56 (q := 57) rfl rfl ?_
            refine j_iconst (v := 3) dX7_sheet_57 (q := 58) rfl (by decide) ?_
            refine j_callVi1E (M' := M_X7_refuse) lk_X7_61 mv_X7_refuse ob_0 (by decide) (Nat.le_of_ble_eq_true rfl) dX7_sheet_58 (q := 61) rfl (ct_ref3) ?_
            refine j_ireti dX7_sheet_61 rfl ?_
            exact ⟨rfl, rfl⟩
        · skip
          exact absurd c_36 (by rcases hb with rfl | rfl | rfl <;> decide)
      · skip
        refine j_iload_n dX7_sheet_17 (q := 18) rfl rfl ?_
        refine j_bipush (v := 16) dX7_sheet_18 (q := 20) rfl (by decide) ?_
        refine j_icmp_eq dX7_sheet_20 (t := 35) (by decide) (q := 23) rfl (fun c_20 => ?_) (fun c_20 => ?_)
        · skip
          refine j_iload_n dX7_sheet_35 (q := 36) rfl rfl ?_
          refine j_if_ne dX7_sheet_36 (t := 52) (by decide) (q := 39) rfl (fun c_36 => ?_) (fun c_36 => ?_)
          · skip
            refine j_iload_n dX7_sheet_52 (q := 53) rfl rfl ?_
            refine j_if_ge dX7_sheet_53 (t := 62) (by decide) (q := 56) rfl (fun c_53 => ?_) (fun c_53 => ?_)
            · skip
              exact absurd hn (Int32.not_lt.mpr c_53)
            · skip
              refine j_aload_n dX7_sheet_56 (q := 57) rfl rfl ?_
              refine j_iconst (v := 3) dX7_sheet_57 (q := 58) rfl (by decide) ?_
              refine j_callVi1E (M' := M_X7_refuse) lk_X7_61 mv_X7_refuse ob_0 (by decide) (Nat.le_of_ble_eq_true rfl) dX7_sheet_58 (q := 61) rfl (ct_ref3) ?_
              refine j_ireti dX7_sheet_61 rfl ?_
              exact ⟨rfl, rfl⟩
          · skip
            exact absurd c_36 (by rcases hb with rfl | rfl | rfl <;> decide)
        · skip
          refine j_iload_n dX7_sheet_23 (q := 24) rfl rfl ?_
          refine j_bipush (v := 32) dX7_sheet_24 (q := 26) rfl (by decide) ?_
          refine j_icmp_eq dX7_sheet_26 (t := 35) (by decide) (q := 29) rfl (fun c_26 => ?_) (fun c_26 => ?_)
          · skip
            refine j_iload_n dX7_sheet_35 (q := 36) rfl rfl ?_
            refine j_if_ne dX7_sheet_36 (t := 52) (by decide) (q := 39) rfl (fun c_36 => ?_) (fun c_36 => ?_)
            · skip
              refine j_iload_n dX7_sheet_52 (q := 53) rfl rfl ?_
              refine j_if_ge dX7_sheet_53 (t := 62) (by decide) (q := 56) rfl (fun c_53 => ?_) (fun c_53 => ?_)
              · skip
                exact absurd hn (Int32.not_lt.mpr c_53)
              · skip
                refine j_aload_n dX7_sheet_56 (q := 57) rfl rfl ?_
                refine j_iconst (v := 3) dX7_sheet_57 (q := 58) rfl (by decide) ?_
                refine j_callVi1E (M' := M_X7_refuse) lk_X7_61 mv_X7_refuse ob_0 (by decide) (Nat.le_of_ble_eq_true rfl) dX7_sheet_58 (q := 61) rfl (ct_ref3) ?_
                refine j_ireti dX7_sheet_61 rfl ?_
                exact ⟨rfl, rfl⟩
            · skip
              exact absurd c_36 (by rcases hb with rfl | rfl | rfl <;> decide)
          · skip
            exact absurd (by rcases hb with h | h | h <;> simp_all) c_26
  · skip
    exact absurd (inK (b := 3) (by omega) (by decide)) c_4
theorem ct_X7_sheet_big {g : GT} {σ : S_} {s : Nat} {b n : Int32} (hk4 : s < 4) (hb : b = 8 ∨ b = 16 ∨ b = 32) (hn : 24 < n) : CT g 2 M_X7_sheet [.ref 0, .int (nI s), .int b, .int n] σ (EQ (.int (-1000000001)) (rfz σ 1)) := by
  refine ct_of [.ref 0, .int (nI s), .int b, .int n] pn_X7_sheet rfl (Nat.le_of_ble_eq_true rfl) ?_
  refine j_iload_n dX7_sheet_0 (q := 1) rfl rfl ?_
  refine j_callSi1E (M' := M_X7_isSheet) lk_X7_242 ms_X7_isSheet (by decide) (Nat.le_of_ble_eq_true rfl) dX7_sheet_1 (q := 4) rfl (ct_X7_isSheet) ?_
  refine j_ifeqB dX7_sheet_4 (t := 29) (by decide) (q := 7) rfl (fun c_4 => ?_) (fun c_4 => ?_)
  · skip
    refine j_iload_n dX7_sheet_7 (q := 8) rfl rfl ?_
    refine j_if_eq dX7_sheet_8 (t := 35) (by decide) (q := 11) rfl (fun c_8 => ?_) (fun c_8 => ?_)
    · skip
      exact absurd c_8 (by rcases hb with rfl | rfl | rfl <;> decide)
    · skip
      refine j_iload_n dX7_sheet_11 (q := 12) rfl rfl ?_
      refine j_bipush (v := 8) dX7_sheet_12 (q := 14) rfl (by decide) ?_
      refine j_icmp_eq dX7_sheet_14 (t := 35) (by decide) (q := 17) rfl (fun c_14 => ?_) (fun c_14 => ?_)
      · skip
        refine j_iload_n dX7_sheet_35 (q := 36) rfl rfl ?_
        refine j_if_ne dX7_sheet_36 (t := 52) (by decide) (q := 39) rfl (fun c_36 => ?_) (fun c_36 => ?_)
        · skip
          refine j_iload_n dX7_sheet_52 (q := 53) rfl rfl ?_
          refine j_if_ge dX7_sheet_53 (t := 62) (by decide) (q := 56) rfl (fun c_53 => ?_) (fun c_53 => ?_)
          · skip
            refine j_iload_n dX7_sheet_62 (q := 63) rfl rfl ?_
            refine j_bipush (v := 24) dX7_sheet_63 (q := 65) rfl (by decide) ?_
            refine j_icmp_le dX7_sheet_65 (t := 74) (by decide) (q := 68) rfl (fun c_65 => ?_) (fun c_65 => ?_)
            · skip
              exact absurd c_65 (Int32.not_le.mpr hn)
            · skip
              refine j_aload_n dX7_sheet_68 (q := 69) rfl rfl ?_
              refine j_iconst (v := 1) dX7_sheet_69 (q := 70) rfl (by decide) ?_
              refine j_callVi1E (M' := M_X7_refuse) lk_X7_61 mv_X7_refuse ob_0 (by decide) (Nat.le_of_ble_eq_true rfl) dX7_sheet_70 (q := 73) rfl (ct_ref1) ?_
              refine j_ireti dX7_sheet_73 rfl ?_
              exact ⟨rfl, rfl⟩
          · skip
            exact absurd (Int32.lt_of_lt_of_le (show (0 : Int32) < 24 by decide) (Int32.le_of_lt hn)) (fun q => c_53 (Int32.le_of_lt q))
        · skip
          exact absurd c_36 (by rcases hb with rfl | rfl | rfl <;> decide)
      · skip
        refine j_iload_n dX7_sheet_17 (q := 18) rfl rfl ?_
        refine j_bipush (v := 16) dX7_sheet_18 (q := 20) rfl (by decide) ?_
        refine j_icmp_eq dX7_sheet_20 (t := 35) (by decide) (q := 23) rfl (fun c_20 => ?_) (fun c_20 => ?_)
        · skip
          refine j_iload_n dX7_sheet_35 (q := 36) rfl rfl ?_
          refine j_if_ne dX7_sheet_36 (t := 52) (by decide) (q := 39) rfl (fun c_36 => ?_) (fun c_36 => ?_)
          · skip
            refine j_iload_n dX7_sheet_52 (q := 53) rfl rfl ?_
            refine j_if_ge dX7_sheet_53 (t := 62) (by decide) (q := 56) rfl (fun c_53 => ?_) (fun c_53 => ?_)
            · skip
              refine j_iload_n dX7_sheet_62 (q := 63) rfl rfl ?_
              refine j_bipush (v := 24) dX7_sheet_63 (q := 65) rfl (by decide) ?_
              refine j_icmp_le dX7_sheet_65 (t := 74) (by decide) (q := 68) rfl (fun c_65 => ?_) (fun c_65 => ?_)
              · skip
                exact absurd c_65 (Int32.not_le.mpr hn)
              · skip
                refine j_aload_n dX7_sheet_68 (q := 69) rfl rfl ?_
                refine j_iconst (v := 1) dX7_sheet_69 (q := 70) rfl (by decide) ?_
                refine j_callVi1E (M' := M_X7_refuse) lk_X7_61 mv_X7_refuse ob_0 (by decide) (Nat.le_of_ble_eq_true rfl) dX7_sheet_70 (q := 73) rfl (ct_ref1) ?_
                refine j_ireti dX7_sheet_73 rfl ?_
                exact ⟨rfl, rfl⟩
            · skip
              exact absurd (Int32.lt_of_lt_of_le (show (0 : Int32) < 24 by decide) (Int32.le_of_lt hn)) (fun q => c_53 (Int32.le_of_lt q))
          · skip
            exact absurd c_36 (by rcases hb with rfl | rfl | rfl <;> decide)
        · skip
          refine j_iload_n dX7_sheet_23 (q := 24) rfl rfl ?_
          refine j_bipush (v := 32) dX7_sheet_24 (q := 26) rfl (by decide) ?_
          refine j_icmp_eq dX7_sheet_26 (t := 35) (by decide) (q := 29) rfl (fun c_26 => ?_) (fun c_26 => ?_)
          · skip
            refine j_iload_n dX7_sheet_35 (q := 36) rfl rfl ?_
            refine j_if_ne dX7_sheet_36 (t := 52) (by decide) (q := 39) rfl (fun c_36 => ?_) (fun c_36 => ?_)
            · skip
              refine j_iload_n dX7_sheet_52 (q := 53) rfl rfl ?_
              refine j_if_ge dX7_sheet_53 (t := 62) (by decide) (q := 56) rfl (fun c_53 => ?_) (fun c_53 => ?_)
              · skip
                refine j_iload_n dX7_sheet_62 (q := 63) rfl rfl ?_
                refine j_bipush (v := 24) dX7_sheet_63 (q := 65) rfl (by decide) ?_
                refine j_icmp_le dX7_sheet_65 (t := 74) (by decide) (q := 68) rfl (fun c_65 => ?_) (fun c_65 => ?_)
                · skip
                  exact absurd c_65 (Int32.not_le.mpr hn)
                · skip
                  refine j_aload_n dX7_sheet_68 (q := 69) rfl rfl ?_
                  refine j_iconst (v := 1) dX7_sheet_69 (q := 70) rfl (by decide) ?_
                  refine j_callVi1E (M' := M_X7_refuse) lk_X7_61 mv_X7_refuse ob_0 (by decide) (Nat.le_of_ble_eq_true rfl) dX7_sheet_70 (q := 73) rfl (ct_ref1) ?_
                  refine j_ireti dX7_sheet_73 rfl ?_
                  exact ⟨rfl, rfl⟩
              · skip
                exact absurd (Int32.lt_of_lt_of_le (show (0 : Int32) < 24 by decide) (Int32.le_of_lt hn)) (fun q => c_53 (Int32.le_of_lt q))
            · skip
              exact absurd c_36 (by rcases hb with rfl | rfl | rfl <;> decide)
          · skip
            exact absurd (by rcases hb with h | h | h <;> simp_all) c_26
  · skip
    exact absurd (inK (b := 3) (by omega) (by decide)) c_4
theorem ct_X7_sheet_ok {g : GT} {σ : S_} {s m : Nat} {b : Int32} (hk4 : s < 4) (hb : b = 8 ∨ b = 16 ∨ b = 32) (hm : m ≤ 24) : CT g 2 M_X7_sheet [.ref 0, .int (nI s), .int b, .int (nI m)] σ (fun r τ => r = .int 1 ∧ τ (62 + 2 * s) 1 = b ∧ τ (62 + 2 * s) 2 = nI m ∧ (∀ j, j < 24 → τ (63 + 2 * s) j = 0) ∧ ∀ x, x ≠ 62 + 2 * s → x ≠ 63 + 2 * s → τ x = σ x) := by
  refine ct_of [.ref 0, .int (nI s), .int b, .int (nI m)] pn_X7_sheet rfl (Nat.le_of_ble_eq_true rfl) ?_
  refine j_iload_n dX7_sheet_0 (q := 1) rfl rfl ?_
  refine j_callSi1E (M' := M_X7_isSheet) lk_X7_242 ms_X7_isSheet (by decide) (Nat.le_of_ble_eq_true rfl) dX7_sheet_1 (q := 4) rfl (ct_X7_isSheet) ?_
  refine j_ifeqB dX7_sheet_4 (t := 29) (by decide) (q := 7) rfl (fun c_4 => ?_) (fun c_4 => ?_)
  · skip
    refine j_iload_n dX7_sheet_7 (q := 8) rfl rfl ?_
    refine j_if_eq dX7_sheet_8 (t := 35) (by decide) (q := 11) rfl (fun c_8 => ?_) (fun c_8 => ?_)
    · skip
      exact absurd c_8 (by rcases hb with rfl | rfl | rfl <;> decide)
    · skip
      refine j_iload_n dX7_sheet_11 (q := 12) rfl rfl ?_
      refine j_bipush (v := 8) dX7_sheet_12 (q := 14) rfl (by decide) ?_
      refine j_icmp_eq dX7_sheet_14 (t := 35) (by decide) (q := 17) rfl (fun c_14 => ?_) (fun c_14 => ?_)
      · skip
        refine j_iload_n dX7_sheet_35 (q := 36) rfl rfl ?_
        refine j_if_ne dX7_sheet_36 (t := 52) (by decide) (q := 39) rfl (fun c_36 => ?_) (fun c_36 => ?_)
        · skip
          refine j_iload_n dX7_sheet_52 (q := 53) rfl rfl ?_
          refine j_if_geN (by omega) dX7_sheet_53 (t := 62) (by decide) (q := 56) rfl (fun c_53 => ?_) (fun c_53 => ?_)
          · skip
            refine j_iload_n dX7_sheet_62 (q := 63) rfl rfl ?_
            refine j_bipush (v := 24) dX7_sheet_63 (q := 65) rfl (by decide) ?_
            refine j_icmp_leN (b := 24) (by omega) (by omega) dX7_sheet_65 (t := 74) (by decide) (q := 68) rfl (fun c_65 => ?_) (fun c_65 => ?_)
            · skip
              refine j_aload_n dX7_sheet_74 (q := 75) rfl rfl ?_
              refine j_getR (r := 1) fs_X7_44 rfl rfl rfl dX7_sheet_75 (q := 78) rfl ?_
              refine j_iload_n dX7_sheet_78 (q := 79) rfl rfl ?_
              refine j_aaldN rfl (by omega) (SH_1 hk4) dX7_sheet_79 (q := 80) rfl ?_
              refine j_iload_n dX7_sheet_80 (q := 81) rfl rfl ?_
              refine j_iload_n dX7_sheet_81 (q := 82) rfl rfl ?_
              refine j_callVv2 (M' := M_X2_begin) lk_X7_266 mv_X2_begin (ob_of (SH_o hk4) rfl) (by decide) (Nat.le_of_ble_eq_true rfl) dX7_sheet_82 (q := 85) rfl (ct_X2_begin hk4) ?_
              intro τ1 hz
              obtain ⟨-, z1, z2, z3, z4⟩ := hz
              refine j_iconst (v := 1) dX7_sheet_85 (q := 86) rfl (by decide) ?_
              refine j_ireti dX7_sheet_86 rfl ?_
              exact ⟨rfl, z1, z2, z3, z4⟩
            · skip
              omega
          · skip
            omega
        · skip
          exact absurd c_36 (by rcases hb with rfl | rfl | rfl <;> decide)
      · skip
        refine j_iload_n dX7_sheet_17 (q := 18) rfl rfl ?_
        refine j_bipush (v := 16) dX7_sheet_18 (q := 20) rfl (by decide) ?_
        refine j_icmp_eq dX7_sheet_20 (t := 35) (by decide) (q := 23) rfl (fun c_20 => ?_) (fun c_20 => ?_)
        · skip
          refine j_iload_n dX7_sheet_35 (q := 36) rfl rfl ?_
          refine j_if_ne dX7_sheet_36 (t := 52) (by decide) (q := 39) rfl (fun c_36 => ?_) (fun c_36 => ?_)
          · skip
            refine j_iload_n dX7_sheet_52 (q := 53) rfl rfl ?_
            refine j_if_geN (by omega) dX7_sheet_53 (t := 62) (by decide) (q := 56) rfl (fun c_53 => ?_) (fun c_53 => ?_)
            · skip
              refine j_iload_n dX7_sheet_62 (q := 63) rfl rfl ?_
              refine j_bipush (v := 24) dX7_sheet_63 (q := 65) rfl (by decide) ?_
              refine j_icmp_leN (b := 24) (by omega) (by omega) dX7_sheet_65 (t := 74) (by decide) (q := 68) rfl (fun c_65 => ?_) (fun c_65 => ?_)
              · skip
                refine j_aload_n dX7_sheet_74 (q := 75) rfl rfl ?_
                refine j_getR (r := 1) fs_X7_44 rfl rfl rfl dX7_sheet_75 (q := 78) rfl ?_
                refine j_iload_n dX7_sheet_78 (q := 79) rfl rfl ?_
                refine j_aaldN rfl (by omega) (SH_1 hk4) dX7_sheet_79 (q := 80) rfl ?_
                refine j_iload_n dX7_sheet_80 (q := 81) rfl rfl ?_
                refine j_iload_n dX7_sheet_81 (q := 82) rfl rfl ?_
                refine j_callVv2 (M' := M_X2_begin) lk_X7_266 mv_X2_begin (ob_of (SH_o hk4) rfl) (by decide) (Nat.le_of_ble_eq_true rfl) dX7_sheet_82 (q := 85) rfl (ct_X2_begin hk4) ?_
                intro τ1 hz
                obtain ⟨-, z1, z2, z3, z4⟩ := hz
                refine j_iconst (v := 1) dX7_sheet_85 (q := 86) rfl (by decide) ?_
                refine j_ireti dX7_sheet_86 rfl ?_
                exact ⟨rfl, z1, z2, z3, z4⟩
              · skip
                omega
            · skip
              omega
          · skip
            exact absurd c_36 (by rcases hb with rfl | rfl | rfl <;> decide)
        · skip
          refine j_iload_n dX7_sheet_23 (q := 24) rfl rfl ?_
          refine j_bipush (v := 32) dX7_sheet_24 (q := 26) rfl (by decide) ?_
          refine j_icmp_eq dX7_sheet_26 (t := 35) (by decide) (q := 29) rfl (fun c_26 => ?_) (fun c_26 => ?_)
          · skip
            refine j_iload_n dX7_sheet_35 (q := 36) rfl rfl ?_
            refine j_if_ne dX7_sheet_36 (t := 52) (by decide) (q := 39) rfl (fun c_36 => ?_) (fun c_36 => ?_)
            · skip
              refine j_iload_n dX7_sheet_52 (q := 53) rfl rfl ?_
              refine j_if_geN (by omega) dX7_sheet_53 (t := 62) (by decide) (q := 56) rfl (fun c_53 => ?_) (fun c_53 => ?_)
              · skip
                refine j_iload_n dX7_sheet_62 (q := 63) rfl rfl ?_
                refine j_bipush (v := 24) dX7_sheet_63 (q := 65) rfl (by decide) ?_
                refine j_icmp_leN (b := 24) (by omega) (by omega) dX7_sheet_65 (t := 74) (by decide) (q := 68) rfl (fun c_65 => ?_) (fun c_65 => ?_)
                · skip
                  refine j_aload_n dX7_sheet_74 (q := 75) rfl rfl ?_
                  refine j_getR (r := 1) fs_X7_44 rfl rfl rfl dX7_sheet_75 (q := 78) rfl ?_
                  refine j_iload_n dX7_sheet_78 (q := 79) rfl rfl ?_
                  refine j_aaldN rfl (by omega) (SH_1 hk4) dX7_sheet_79 (q := 80) rfl ?_
                  refine j_iload_n dX7_sheet_80 (q := 81) rfl rfl ?_
                  refine j_iload_n dX7_sheet_81 (q := 82) rfl rfl ?_
                  refine j_callVv2 (M' := M_X2_begin) lk_X7_266 mv_X2_begin (ob_of (SH_o hk4) rfl) (by decide) (Nat.le_of_ble_eq_true rfl) dX7_sheet_82 (q := 85) rfl (ct_X2_begin hk4) ?_
                  intro τ1 hz
                  obtain ⟨-, z1, z2, z3, z4⟩ := hz
                  refine j_iconst (v := 1) dX7_sheet_85 (q := 86) rfl (by decide) ?_
                  refine j_ireti dX7_sheet_86 rfl ?_
                  exact ⟨rfl, z1, z2, z3, z4⟩
                · skip
                  omega
              · skip
                omega
            · skip
              exact absurd c_36 (by rcases hb with rfl | rfl | rfl <;> decide)
          · skip
            exact absurd (by rcases hb with h | h | h <;> simp_all) c_26
  · skip
    exact absurd (inK (b := 3) (by omega) (by decide)) c_4
theorem sm_loop {g : GT} {s : Nat} (hk4 : s < 4) {b n : Int32} {σ0 : S_} {Z : Value → S_ → Prop} (hZ : ∀ τ : S_, (∀ j, j < 24 → τ 85 (24 * s + j) = 0) → (∀ j, (j < 24 * s ∨ 24 * s + 24 ≤ j) → τ 85 j = σ0 85 j) → (∀ x, x ≠ 85 → τ x = σ0 x) → Z (.int 1) τ) : ∀ (k i : Nat) (σ : S_), i + k = 24 → (∀ j, j < i → σ 85 (24 * s + j) = 0) → (∀ j, (j < 24 * s ∨ 24 * s + 24 ≤ j) → σ 85 j = σ0 85 j) → (∀ x, x ≠ 85 → σ x = σ0 x) → J g 2 M_X8_sheet Z 90 [.ref 70, .int (nI s), .int b, .int n, .int (nI i)] [] σ := by
  intro k
  induction k with
  | zero =>
    intro i σ hik h0 h1 hO
    refine j_iload dX8_sheet_90 (q := 92) rfl rfl ?_
    refine j_bipush (v := 24) dX8_sheet_92 (q := 94) rfl (by decide) ?_
    refine j_icmp_geN (b := 24) (by omega) (by omega) dX8_sheet_94 (t := 116) (by decide) (q := 97) rfl (fun c_94 => ?_) (fun c_94 => ?_)
    · skip
      refine j_iconst (v := 1) dX8_sheet_116 (q := 117) rfl (by decide) ?_
      refine j_ireti dX8_sheet_117 rfl ?_
      obtain rfl : i = 24 := by omega
      exact hZ σ h0 h1 hO
    · skip
      omega
  | succ k ih =>
    intro i σ hik h0 h1 hO
    refine j_iload dX8_sheet_90 (q := 92) rfl rfl ?_
    refine j_bipush (v := 24) dX8_sheet_92 (q := 94) rfl (by decide) ?_
    refine j_icmp_geN (b := 24) (by omega) (by omega) dX8_sheet_94 (t := 116) (by decide) (q := 97) rfl (fun c_94 => ?_) (fun c_94 => ?_)
    · skip
      omega
    · skip
      refine j_aload_n dX8_sheet_97 (q := 98) rfl rfl ?_
      refine j_getR (r := 85) fs_X8_52 rfl rfl rfl dX8_sheet_98 (q := 101) rfl ?_
      refine j_bipush (v := 24) dX8_sheet_101 (q := 103) rfl (by decide) ?_
      refine j_iload_n dX8_sheet_103 (q := 104) rfl rfl ?_
      refine j_imulN (a := 24) dX8_sheet_104 (q := 105) rfl ?_
      refine j_iload dX8_sheet_105 (q := 107) rfl rfl ?_
      refine j_iaddN dX8_sheet_107 (q := 108) rfl ?_
      refine j_iconst (v := 0) dX8_sheet_108 (q := 109) rfl (by decide) ?_
      refine j_iastN rfl (by omega) dX8_sheet_109 (q := 110) rfl ?_
      refine j_iincN_5_4 dX8_sheet_110 (q := 113) rfl rfl rfl ?_
      refine j_goto (q := 90) dX8_sheet_113 (by decide) ?_
      refine ih (i + 1) _ (by omega) (fun j hj => ?_) (fun j hj => (up_nk (by omega)).trans (h1 j hj)) (fun x hx => (up_row hx).trans (hO x hx))
      by_cases e : j = i
      · subst e; exact up_at
      · rw [up_nk (by omega)]; exact h0 j (by omega)
theorem ct_X8_sheet_0 {g : GT} {σ : S_} {s : Nat} {n : Int32} (hk4 : s < 4) : CT g 2 M_X8_sheet [.ref 70, .int (nI s), .int 0, .int n] σ (fun r τ => r = .int 1 ∧ τ 83 = upd (σ 83) s 0 ∧ τ 84 = upd (σ 84) s 0 ∧ (∀ j, j < 24 → τ 85 (24 * s + j) = 0) ∧ (∀ j, (j < 24 * s ∨ 24 * s + 24 ≤ j) → τ 85 j = σ 85 j) ∧ ∀ x, x ≠ 83 → x ≠ 84 → x ≠ 85 → τ x = σ x) := by
  refine ct_of [.ref 70, .int (nI s), .int 0, .int n, .null] pn_X8_sheet rfl (Nat.le_of_ble_eq_true rfl) ?_
  refine j_iload_n dX8_sheet_0 (q := 1) rfl rfl ?_
  refine j_callSi1E (M' := M_X8_isSheet) lk_X8_252 ms_X8_isSheet (by decide) (Nat.le_of_ble_eq_true rfl) dX8_sheet_1 (q := 4) rfl (ct_X8_isSheet) ?_
  refine j_ifeqB dX8_sheet_4 (t := 29) (by decide) (q := 7) rfl (fun c_4 => ?_) (fun c_4 => ?_)
  · skip
    refine j_iload_n dX8_sheet_7 (q := 8) rfl rfl ?_
    refine j_if_eq dX8_sheet_8 (t := 35) (by decide) (q := 11) rfl (fun c_8 => ?_) (fun c_8 => ?_)
    · skip
      refine j_iload_n dX8_sheet_35 (q := 36) rfl rfl ?_
      refine j_if_eq dX8_sheet_36 (t := 49) (by decide) (q := 39) rfl (fun c_36 => ?_) (fun c_36 => ?_)
      · skip
        refine j_iload_n dX8_sheet_49 (q := 50) rfl rfl ?_
        refine j_if_eq dX8_sheet_50 (t := 65) (by decide) (q := 53) rfl (fun c_50 => ?_) (fun c_50 => ?_)
        · skip
          refine j_aload_n dX8_sheet_65 (q := 66) rfl rfl ?_
          refine j_getR (r := 83) fs_X8_46 rfl rfl rfl dX8_sheet_66 (q := 69) rfl ?_
          refine j_iload_n dX8_sheet_69 (q := 70) rfl rfl ?_
          refine j_iload_n dX8_sheet_70 (q := 71) rfl rfl ?_
          refine j_iastN rfl (by omega) dX8_sheet_71 (q := 72) rfl ?_
          refine j_aload_n dX8_sheet_72 (q := 73) rfl rfl ?_
          refine j_getR (r := 84) fs_X8_49 rfl rfl rfl dX8_sheet_73 (q := 76) rfl ?_
          refine j_iload_n dX8_sheet_76 (q := 77) rfl rfl ?_
          refine j_iload_n dX8_sheet_77 (q := 78) rfl rfl ?_
          refine j_if_ne dX8_sheet_78 (t := 85) (by decide) (q := 81) rfl (fun c_78 => ?_) (fun c_78 => ?_)
          · skip
            exact absurd c_78 (by decide)
          · skip
            refine j_iconst (v := 0) dX8_sheet_81 (q := 82) rfl (by decide) ?_
            refine j_goto (q := 86) dX8_sheet_82 (by decide) ?_
            refine j_iastN rfl (by omega) dX8_sheet_86 (q := 87) rfl ?_
            refine j_iconst (v := 0) dX8_sheet_87 (q := 88) rfl (by decide) ?_
            refine j_istore_5_4 dX8_sheet_88 (q := 90) rfl rfl rfl ?_
            exact sm_loop hk4 (σ0 := up (up σ 83 s 0) 84 s 0) (fun τ a c e => ⟨rfl, by rw [e 83 (by decide), up_row (by decide), up_own], by rw [e 84 (by decide), up_own, up_row (by decide)], a, fun j hj => (c j hj).trans (by rw [up_nc (by decide), up_nc (by decide)]), fun x x1 x2 x3 => (e x x3).trans ((up_row x2).trans (up_row x1))⟩) 24 0 _ rfl (fun j hj => absurd hj (by omega)) (fun _ _ => rfl) (fun _ _ => rfl)
        · skip
          exact absurd c_50 (by decide)
      · skip
        exact absurd c_36 (by decide)
    · skip
      exact absurd c_8 (by decide)
  · skip
    exact absurd (inK (b := 3) (by omega) (by decide)) c_4
theorem ct_X8_sheet_neg {g : GT} {σ : S_} {s : Nat} {b n : Int32} (hk4 : s < 4) (hb : b = 8 ∨ b = 16 ∨ b = 32) (hn : n < 0) : CT g 2 M_X8_sheet [.ref 70, .int (nI s), .int b, .int n] σ (EQ (.int (-1000000003)) (rfm σ 3)) := by
  refine ct_of [.ref 70, .int (nI s), .int b, .int n, .null] pn_X8_sheet rfl (Nat.le_of_ble_eq_true rfl) ?_
  refine j_iload_n dX8_sheet_0 (q := 1) rfl rfl ?_
  refine j_callSi1E (M' := M_X8_isSheet) lk_X8_252 ms_X8_isSheet (by decide) (Nat.le_of_ble_eq_true rfl) dX8_sheet_1 (q := 4) rfl (ct_X8_isSheet) ?_
  refine j_ifeqB dX8_sheet_4 (t := 29) (by decide) (q := 7) rfl (fun c_4 => ?_) (fun c_4 => ?_)
  · skip
    refine j_iload_n dX8_sheet_7 (q := 8) rfl rfl ?_
    refine j_if_eq dX8_sheet_8 (t := 35) (by decide) (q := 11) rfl (fun c_8 => ?_) (fun c_8 => ?_)
    · skip
      exact absurd c_8 (by rcases hb with rfl | rfl | rfl <;> decide)
    · skip
      refine j_iload_n dX8_sheet_11 (q := 12) rfl rfl ?_
      refine j_bipush (v := 8) dX8_sheet_12 (q := 14) rfl (by decide) ?_
      refine j_icmp_eq dX8_sheet_14 (t := 35) (by decide) (q := 17) rfl (fun c_14 => ?_) (fun c_14 => ?_)
      · skip
        refine j_iload_n dX8_sheet_35 (q := 36) rfl rfl ?_
        refine j_if_eq dX8_sheet_36 (t := 49) (by decide) (q := 39) rfl (fun c_36 => ?_) (fun c_36 => ?_)
        · skip
          exact absurd c_36 (by rcases hb with rfl | rfl | rfl <;> decide)
        · skip
          refine j_iload_n dX8_sheet_39 (q := 40) rfl rfl ?_
          refine j_if_ge dX8_sheet_40 (t := 49) (by decide) (q := 43) rfl (fun c_40 => ?_) (fun c_40 => ?_)
          · skip
            exact absurd hn (Int32.not_lt.mpr c_40)
          · skip
            refine j_aload_n dX8_sheet_43 (q := 44) rfl rfl ?_
            refine j_iconst (v := 3) dX8_sheet_44 (q := 45) rfl (by decide) ?_
            refine j_callVi1E (M' := M_X8_error) lk_X8_63 mv_X8_error ob_70 (by decide) (Nat.le_of_ble_eq_true rfl) dX8_sheet_45 (q := 48) rfl (ct_err3) ?_
            refine j_ireti dX8_sheet_48 rfl ?_
            exact ⟨rfl, rfl⟩
      · skip
        refine j_iload_n dX8_sheet_17 (q := 18) rfl rfl ?_
        refine j_bipush (v := 16) dX8_sheet_18 (q := 20) rfl (by decide) ?_
        refine j_icmp_eq dX8_sheet_20 (t := 35) (by decide) (q := 23) rfl (fun c_20 => ?_) (fun c_20 => ?_)
        · skip
          refine j_iload_n dX8_sheet_35 (q := 36) rfl rfl ?_
          refine j_if_eq dX8_sheet_36 (t := 49) (by decide) (q := 39) rfl (fun c_36 => ?_) (fun c_36 => ?_)
          · skip
            exact absurd c_36 (by rcases hb with rfl | rfl | rfl <;> decide)
          · skip
            refine j_iload_n dX8_sheet_39 (q := 40) rfl rfl ?_
            refine j_if_ge dX8_sheet_40 (t := 49) (by decide) (q := 43) rfl (fun c_40 => ?_) (fun c_40 => ?_)
            · skip
              exact absurd hn (Int32.not_lt.mpr c_40)
            · skip
              refine j_aload_n dX8_sheet_43 (q := 44) rfl rfl ?_
              refine j_iconst (v := 3) dX8_sheet_44 (q := 45) rfl (by decide) ?_
              refine j_callVi1E (M' := M_X8_error) lk_X8_63 mv_X8_error ob_70 (by decide) (Nat.le_of_ble_eq_true rfl) dX8_sheet_45 (q := 48) rfl (ct_err3) ?_
              refine j_ireti dX8_sheet_48 rfl ?_
              exact ⟨rfl, rfl⟩
        · skip
          refine j_iload_n dX8_sheet_23 (q := 24) rfl rfl ?_
          refine j_bipush (v := 32) dX8_sheet_24 (q := 26) rfl (by decide) ?_
          refine j_icmp_eq dX8_sheet_26 (t := 35) (by decide) (q := 29) rfl (fun c_26 => ?_) (fun c_26 => ?_)
          · skip
            refine j_iload_n dX8_sheet_35 (q := 36) rfl rfl ?_
            refine j_if_eq dX8_sheet_36 (t := 49) (by decide) (q := 39) rfl (fun c_36 => ?_) (fun c_36 => ?_)
            · skip
              exact absurd c_36 (by rcases hb with rfl | rfl | rfl <;> decide)
            · skip
              refine j_iload_n dX8_sheet_39 (q := 40) rfl rfl ?_
              refine j_if_ge dX8_sheet_40 (t := 49) (by decide) (q := 43) rfl (fun c_40 => ?_) (fun c_40 => ?_)
              · skip
                exact absurd hn (Int32.not_lt.mpr c_40)
              · skip
                refine j_aload_n dX8_sheet_43 (q := 44) rfl rfl ?_
                refine j_iconst (v := 3) dX8_sheet_44 (q := 45) rfl (by decide) ?_
                refine j_callVi1E (M' := M_X8_error) lk_X8_63 mv_X8_error ob_70 (by decide) (Nat.le_of_ble_eq_true rfl) dX8_sheet_45 (q := 48) rfl (ct_err3) ?_
                refine j_ireti dX8_sheet_48 rfl ?_
                exact ⟨rfl, rfl⟩
          · skip
            exact absurd (by rcases hb with h | h | h <;> simp_all) c_26
  · skip
    exact absurd (inK (b := 3) (by omega) (by decide)) c_4
theorem ct_X8_sheet_big {g : GT} {σ : S_} {s : Nat} {b n : Int32} (hk4 : s < 4) (hb : b = 8 ∨ b = 16 ∨ b = 32) (hn : 24 < n) : CT g 2 M_X8_sheet [.ref 70, .int (nI s), .int b, .int n] σ (EQ (.int (-1000000001)) (rfm σ 1)) := by
  refine ct_of [.ref 70, .int (nI s), .int b, .int n, .null] pn_X8_sheet rfl (Nat.le_of_ble_eq_true rfl) ?_
  refine j_iload_n dX8_sheet_0 (q := 1) rfl rfl ?_
  refine j_callSi1E (M' := M_X8_isSheet) lk_X8_252 ms_X8_isSheet (by decide) (Nat.le_of_ble_eq_true rfl) dX8_sheet_1 (q := 4) rfl (ct_X8_isSheet) ?_
  refine j_ifeqB dX8_sheet_4 (t := 29) (by decide) (q := 7) rfl (fun c_4 => ?_) (fun c_4 => ?_)
  · skip
    refine j_iload_n dX8_sheet_7 (q := 8) rfl rfl ?_
    refine j_if_eq dX8_sheet_8 (t := 35) (by decide) (q := 11) rfl (fun c_8 => ?_) (fun c_8 => ?_)
    · skip
      exact absurd c_8 (by rcases hb with rfl | rfl | rfl <;> decide)
    · skip
      refine j_iload_n dX8_sheet_11 (q := 12) rfl rfl ?_
      refine j_bipush (v := 8) dX8_sheet_12 (q := 14) rfl (by decide) ?_
      refine j_icmp_eq dX8_sheet_14 (t := 35) (by decide) (q := 17) rfl (fun c_14 => ?_) (fun c_14 => ?_)
      · skip
        refine j_iload_n dX8_sheet_35 (q := 36) rfl rfl ?_
        refine j_if_eq dX8_sheet_36 (t := 49) (by decide) (q := 39) rfl (fun c_36 => ?_) (fun c_36 => ?_)
        · skip
          exact absurd c_36 (by rcases hb with rfl | rfl | rfl <;> decide)
        · skip
          refine j_iload_n dX8_sheet_39 (q := 40) rfl rfl ?_
          refine j_if_ge dX8_sheet_40 (t := 49) (by decide) (q := 43) rfl (fun c_40 => ?_) (fun c_40 => ?_)
          · skip
            refine j_iload_n dX8_sheet_49 (q := 50) rfl rfl ?_
            refine j_if_eq dX8_sheet_50 (t := 65) (by decide) (q := 53) rfl (fun c_50 => ?_) (fun c_50 => ?_)
            · skip
              exact absurd c_50 (by rcases hb with rfl | rfl | rfl <;> decide)
            · skip
              refine j_iload_n dX8_sheet_53 (q := 54) rfl rfl ?_
              refine j_bipush (v := 24) dX8_sheet_54 (q := 56) rfl (by decide) ?_
              refine j_icmp_le dX8_sheet_56 (t := 65) (by decide) (q := 59) rfl (fun c_56 => ?_) (fun c_56 => ?_)
              · skip
                exact absurd c_56 (Int32.not_le.mpr hn)
              · skip
                refine j_aload_n dX8_sheet_59 (q := 60) rfl rfl ?_
                refine j_iconst (v := 1) dX8_sheet_60 (q := 61) rfl (by decide) ?_
                refine j_callVi1E (M' := M_X8_error) lk_X8_63 mv_X8_error ob_70 (by decide) (Nat.le_of_ble_eq_true rfl) dX8_sheet_61 (q := 64) rfl (ct_err1) ?_
                refine j_ireti dX8_sheet_64 rfl ?_
                exact ⟨rfl, rfl⟩
          · skip
            exact absurd (Int32.lt_of_lt_of_le (show (0 : Int32) < 24 by decide) (Int32.le_of_lt hn)) (fun q => c_40 (Int32.le_of_lt q))
      · skip
        refine j_iload_n dX8_sheet_17 (q := 18) rfl rfl ?_
        refine j_bipush (v := 16) dX8_sheet_18 (q := 20) rfl (by decide) ?_
        refine j_icmp_eq dX8_sheet_20 (t := 35) (by decide) (q := 23) rfl (fun c_20 => ?_) (fun c_20 => ?_)
        · skip
          refine j_iload_n dX8_sheet_35 (q := 36) rfl rfl ?_
          refine j_if_eq dX8_sheet_36 (t := 49) (by decide) (q := 39) rfl (fun c_36 => ?_) (fun c_36 => ?_)
          · skip
            exact absurd c_36 (by rcases hb with rfl | rfl | rfl <;> decide)
          · skip
            refine j_iload_n dX8_sheet_39 (q := 40) rfl rfl ?_
            refine j_if_ge dX8_sheet_40 (t := 49) (by decide) (q := 43) rfl (fun c_40 => ?_) (fun c_40 => ?_)
            · skip
              refine j_iload_n dX8_sheet_49 (q := 50) rfl rfl ?_
              refine j_if_eq dX8_sheet_50 (t := 65) (by decide) (q := 53) rfl (fun c_50 => ?_) (fun c_50 => ?_)
              · skip
                exact absurd c_50 (by rcases hb with rfl | rfl | rfl <;> decide)
              · skip
                refine j_iload_n dX8_sheet_53 (q := 54) rfl rfl ?_
                refine j_bipush (v := 24) dX8_sheet_54 (q := 56) rfl (by decide) ?_
                refine j_icmp_le dX8_sheet_56 (t := 65) (by decide) (q := 59) rfl (fun c_56 => ?_) (fun c_56 => ?_)
                · skip
                  exact absurd c_56 (Int32.not_le.mpr hn)
                · skip
                  refine j_aload_n dX8_sheet_59 (q := 60) rfl rfl ?_
                  refine j_iconst (v := 1) dX8_sheet_60 (q := 61) rfl (by decide) ?_
                  refine j_callVi1E (M' := M_X8_error) lk_X8_63 mv_X8_error ob_70 (by decide) (Nat.le_of_ble_eq_true rfl) dX8_sheet_61 (q := 64) rfl (ct_err1) ?_
                  refine j_ireti dX8_sheet_64 rfl ?_
                  exact ⟨rfl, rfl⟩
            · skip
              exact absurd (Int32.lt_of_lt_of_le (show (0 : Int32) < 24 by decide) (Int32.le_of_lt hn)) (fun q => c_40 (Int32.le_of_lt q))
        · skip
          refine j_iload_n dX8_sheet_23 (q := 24) rfl rfl ?_
          refine j_bipush (v := 32) dX8_sheet_24 (q := 26) rfl (by decide) ?_
          refine j_icmp_eq dX8_sheet_26 (t := 35) (by decide) (q := 29) rfl (fun c_26 => ?_) (fun c_26 => ?_)
          · skip
            refine j_iload_n dX8_sheet_35 (q := 36) rfl rfl ?_
            refine j_if_eq dX8_sheet_36 (t := 49) (by decide) (q := 39) rfl (fun c_36 => ?_) (fun c_36 => ?_)
            · skip
              exact absurd c_36 (by rcases hb with rfl | rfl | rfl <;> decide)
            · skip
              refine j_iload_n dX8_sheet_39 (q := 40) rfl rfl ?_
              refine j_if_ge dX8_sheet_40 (t := 49) (by decide) (q := 43) rfl (fun c_40 => ?_) (fun c_40 => ?_)
              · skip
                refine j_iload_n dX8_sheet_49 (q := 50) rfl rfl ?_
                refine j_if_eq dX8_sheet_50 (t := 65) (by decide) (q := 53) rfl (fun c_50 => ?_) (fun c_50 => ?_)
                · skip
                  exact absurd c_50 (by rcases hb with rfl | rfl | rfl <;> decide)
                · skip
                  refine j_iload_n dX8_sheet_53 (q := 54) rfl rfl ?_
                  refine j_bipush (v := 24) dX8_sheet_54 (q := 56) rfl (by decide) ?_
                  refine j_icmp_le dX8_sheet_56 (t := 65) (by decide) (q := 59) rfl (fun c_56 => ?_) (fun c_56 => ?_)
                  · skip
                    exact absurd c_56 (Int32.not_le.mpr hn)
                  · skip
                    refine j_aload_n dX8_sheet_59 (q := 60) rfl rfl ?_
                    refine j_iconst (v := 1) dX8_sheet_60 (q := 61) rfl (by decide) ?_
                    refine j_callVi1E (M' := M_X8_error) lk_X8_63 mv_X8_error ob_70 (by decide) (Nat.le_of_ble_eq_true rfl) dX8_sheet_61 (q := 64) rfl (ct_err1) ?_
                    refine j_ireti dX8_sheet_64 rfl ?_
                    exact ⟨rfl, rfl⟩
              · skip
                exact absurd (Int32.lt_of_lt_of_le (show (0 : Int32) < 24 by decide) (Int32.le_of_lt hn)) (fun q => c_40 (Int32.le_of_lt q))
          · skip
            exact absurd (by rcases hb with h | h | h <;> simp_all) c_26
  · skip
    exact absurd (inK (b := 3) (by omega) (by decide)) c_4
theorem ct_X8_sheet_ok {g : GT} {σ : S_} {s m : Nat} {b : Int32} (hk4 : s < 4) (hb : b = 8 ∨ b = 16 ∨ b = 32) (hm : m ≤ 24) : CT g 2 M_X8_sheet [.ref 70, .int (nI s), .int b, .int (nI m)] σ (fun r τ => r = .int 1 ∧ τ 83 = upd (σ 83) s b ∧ τ 84 = upd (σ 84) s (nI m) ∧ (∀ j, j < 24 → τ 85 (24 * s + j) = 0) ∧ (∀ j, (j < 24 * s ∨ 24 * s + 24 ≤ j) → τ 85 j = σ 85 j) ∧ ∀ x, x ≠ 83 → x ≠ 84 → x ≠ 85 → τ x = σ x) := by
  refine ct_of [.ref 70, .int (nI s), .int b, .int (nI m), .null] pn_X8_sheet rfl (Nat.le_of_ble_eq_true rfl) ?_
  refine j_iload_n dX8_sheet_0 (q := 1) rfl rfl ?_
  refine j_callSi1E (M' := M_X8_isSheet) lk_X8_252 ms_X8_isSheet (by decide) (Nat.le_of_ble_eq_true rfl) dX8_sheet_1 (q := 4) rfl (ct_X8_isSheet) ?_
  refine j_ifeqB dX8_sheet_4 (t := 29) (by decide) (q := 7) rfl (fun c_4 => ?_) (fun c_4 => ?_)
  · skip
    refine j_iload_n dX8_sheet_7 (q := 8) rfl rfl ?_
    refine j_if_eq dX8_sheet_8 (t := 35) (by decide) (q := 11) rfl (fun c_8 => ?_) (fun c_8 => ?_)
    · skip
      exact absurd c_8 (by rcases hb with rfl | rfl | rfl <;> decide)
    · skip
      refine j_iload_n dX8_sheet_11 (q := 12) rfl rfl ?_
      refine j_bipush (v := 8) dX8_sheet_12 (q := 14) rfl (by decide) ?_
      refine j_icmp_eq dX8_sheet_14 (t := 35) (by decide) (q := 17) rfl (fun c_14 => ?_) (fun c_14 => ?_)
      · skip
        refine j_iload_n dX8_sheet_35 (q := 36) rfl rfl ?_
        refine j_if_eq dX8_sheet_36 (t := 49) (by decide) (q := 39) rfl (fun c_36 => ?_) (fun c_36 => ?_)
        · skip
          exact absurd c_36 (by rcases hb with rfl | rfl | rfl <;> decide)
        · skip
          refine j_iload_n dX8_sheet_39 (q := 40) rfl rfl ?_
          refine j_if_geN (by omega) dX8_sheet_40 (t := 49) (by decide) (q := 43) rfl (fun c_40 => ?_) (fun c_40 => ?_)
          · skip
            refine j_iload_n dX8_sheet_49 (q := 50) rfl rfl ?_
            refine j_if_eq dX8_sheet_50 (t := 65) (by decide) (q := 53) rfl (fun c_50 => ?_) (fun c_50 => ?_)
            · skip
              exact absurd c_50 (by rcases hb with rfl | rfl | rfl <;> decide)
            · skip
              refine j_iload_n dX8_sheet_53 (q := 54) rfl rfl ?_
              refine j_bipush (v := 24) dX8_sheet_54 (q := 56) rfl (by decide) ?_
              refine j_icmp_leN (b := 24) (by omega) (by omega) dX8_sheet_56 (t := 65) (by decide) (q := 59) rfl (fun c_56 => ?_) (fun c_56 => ?_)
              · skip
                refine j_aload_n dX8_sheet_65 (q := 66) rfl rfl ?_
                refine j_getR (r := 83) fs_X8_46 rfl rfl rfl dX8_sheet_66 (q := 69) rfl ?_
                refine j_iload_n dX8_sheet_69 (q := 70) rfl rfl ?_
                refine j_iload_n dX8_sheet_70 (q := 71) rfl rfl ?_
                refine j_iastN rfl (by omega) dX8_sheet_71 (q := 72) rfl ?_
                refine j_aload_n dX8_sheet_72 (q := 73) rfl rfl ?_
                refine j_getR (r := 84) fs_X8_49 rfl rfl rfl dX8_sheet_73 (q := 76) rfl ?_
                refine j_iload_n dX8_sheet_76 (q := 77) rfl rfl ?_
                refine j_iload_n dX8_sheet_77 (q := 78) rfl rfl ?_
                refine j_if_ne dX8_sheet_78 (t := 85) (by decide) (q := 81) rfl (fun c_78 => ?_) (fun c_78 => ?_)
                · skip
                  refine j_iload_n dX8_sheet_85 (q := 86) rfl rfl ?_
                  refine j_iastN rfl (by omega) dX8_sheet_86 (q := 87) rfl ?_
                  refine j_iconst (v := 0) dX8_sheet_87 (q := 88) rfl (by decide) ?_
                  refine j_istore_5_4 dX8_sheet_88 (q := 90) rfl rfl rfl ?_
                  exact sm_loop hk4 (σ0 := up (up σ 83 s b) 84 s (nI m)) (fun τ a c e => ⟨rfl, by rw [e 83 (by decide), up_row (by decide), up_own], by rw [e 84 (by decide), up_own, up_row (by decide)], a, fun j hj => (c j hj).trans (by rw [up_nc (by decide), up_nc (by decide)]), fun x x1 x2 x3 => (e x x3).trans ((up_row x2).trans (up_row x1))⟩) 24 0 _ rfl (fun j hj => absurd hj (by omega)) (fun _ _ => rfl) (fun _ _ => rfl)
                · skip
                  exact absurd c_78 (by rcases hb with rfl | rfl | rfl <;> decide)
              · skip
                omega
          · skip
            omega
      · skip
        refine j_iload_n dX8_sheet_17 (q := 18) rfl rfl ?_
        refine j_bipush (v := 16) dX8_sheet_18 (q := 20) rfl (by decide) ?_
        refine j_icmp_eq dX8_sheet_20 (t := 35) (by decide) (q := 23) rfl (fun c_20 => ?_) (fun c_20 => ?_)
        · skip
          refine j_iload_n dX8_sheet_35 (q := 36) rfl rfl ?_
          refine j_if_eq dX8_sheet_36 (t := 49) (by decide) (q := 39) rfl (fun c_36 => ?_) (fun c_36 => ?_)
          · skip
            exact absurd c_36 (by rcases hb with rfl | rfl | rfl <;> decide)
          · skip
            refine j_iload_n dX8_sheet_39 (q := 40) rfl rfl ?_
            refine j_if_geN (by omega) dX8_sheet_40 (t := 49) (by decide) (q := 43) rfl (fun c_40 => ?_) (fun c_40 => ?_)
            · skip
              refine j_iload_n dX8_sheet_49 (q := 50) rfl rfl ?_
              refine j_if_eq dX8_sheet_50 (t := 65) (by decide) (q := 53) rfl (fun c_50 => ?_) (fun c_50 => ?_)
              · skip
                exact absurd c_50 (by rcases hb with rfl | rfl | rfl <;> decide)
              · skip
                refine j_iload_n dX8_sheet_53 (q := 54) rfl rfl ?_
                refine j_bipush (v := 24) dX8_sheet_54 (q := 56) rfl (by decide) ?_
                refine j_icmp_leN (b := 24) (by omega) (by omega) dX8_sheet_56 (t := 65) (by decide) (q := 59) rfl (fun c_56 => ?_) (fun c_56 => ?_)
                · skip
                  refine j_aload_n dX8_sheet_65 (q := 66) rfl rfl ?_
                  refine j_getR (r := 83) fs_X8_46 rfl rfl rfl dX8_sheet_66 (q := 69) rfl ?_
                  refine j_iload_n dX8_sheet_69 (q := 70) rfl rfl ?_
                  refine j_iload_n dX8_sheet_70 (q := 71) rfl rfl ?_
                  refine j_iastN rfl (by omega) dX8_sheet_71 (q := 72) rfl ?_
                  refine j_aload_n dX8_sheet_72 (q := 73) rfl rfl ?_
                  refine j_getR (r := 84) fs_X8_49 rfl rfl rfl dX8_sheet_73 (q := 76) rfl ?_
                  refine j_iload_n dX8_sheet_76 (q := 77) rfl rfl ?_
                  refine j_iload_n dX8_sheet_77 (q := 78) rfl rfl ?_
                  refine j_if_ne dX8_sheet_78 (t := 85) (by decide) (q := 81) rfl (fun c_78 => ?_) (fun c_78 => ?_)
                  · skip
                    refine j_iload_n dX8_sheet_85 (q := 86) rfl rfl ?_
                    refine j_iastN rfl (by omega) dX8_sheet_86 (q := 87) rfl ?_
                    refine j_iconst (v := 0) dX8_sheet_87 (q := 88) rfl (by decide) ?_
                    refine j_istore_5_4 dX8_sheet_88 (q := 90) rfl rfl rfl ?_
                    exact sm_loop hk4 (σ0 := up (up σ 83 s b) 84 s (nI m)) (fun τ a c e => ⟨rfl, by rw [e 83 (by decide), up_row (by decide), up_own], by rw [e 84 (by decide), up_own, up_row (by decide)], a, fun j hj => (c j hj).trans (by rw [up_nc (by decide), up_nc (by decide)]), fun x x1 x2 x3 => (e x x3).trans ((up_row x2).trans (up_row x1))⟩) 24 0 _ rfl (fun j hj => absurd hj (by omega)) (fun _ _ => rfl) (fun _ _ => rfl)
                  · skip
                    exact absurd c_78 (by rcases hb with rfl | rfl | rfl <;> decide)
                · skip
                  omega
            · skip
              omega
        · skip
          refine j_iload_n dX8_sheet_23 (q := 24) rfl rfl ?_
          refine j_bipush (v := 32) dX8_sheet_24 (q := 26) rfl (by decide) ?_
          refine j_icmp_eq dX8_sheet_26 (t := 35) (by decide) (q := 29) rfl (fun c_26 => ?_) (fun c_26 => ?_)
          · skip
            refine j_iload_n dX8_sheet_35 (q := 36) rfl rfl ?_
            refine j_if_eq dX8_sheet_36 (t := 49) (by decide) (q := 39) rfl (fun c_36 => ?_) (fun c_36 => ?_)
            · skip
              exact absurd c_36 (by rcases hb with rfl | rfl | rfl <;> decide)
            · skip
              refine j_iload_n dX8_sheet_39 (q := 40) rfl rfl ?_
              refine j_if_geN (by omega) dX8_sheet_40 (t := 49) (by decide) (q := 43) rfl (fun c_40 => ?_) (fun c_40 => ?_)
              · skip
                refine j_iload_n dX8_sheet_49 (q := 50) rfl rfl ?_
                refine j_if_eq dX8_sheet_50 (t := 65) (by decide) (q := 53) rfl (fun c_50 => ?_) (fun c_50 => ?_)
                · skip
                  exact absurd c_50 (by rcases hb with rfl | rfl | rfl <;> decide)
                · skip
                  refine j_iload_n dX8_sheet_53 (q := 54) rfl rfl ?_
                  refine j_bipush (v := 24) dX8_sheet_54 (q := 56) rfl (by decide) ?_
                  refine j_icmp_leN (b := 24) (by omega) (by omega) dX8_sheet_56 (t := 65) (by decide) (q := 59) rfl (fun c_56 => ?_) (fun c_56 => ?_)
                  · skip
                    refine j_aload_n dX8_sheet_65 (q := 66) rfl rfl ?_
                    refine j_getR (r := 83) fs_X8_46 rfl rfl rfl dX8_sheet_66 (q := 69) rfl ?_
                    refine j_iload_n dX8_sheet_69 (q := 70) rfl rfl ?_
                    refine j_iload_n dX8_sheet_70 (q := 71) rfl rfl ?_
                    refine j_iastN rfl (by omega) dX8_sheet_71 (q := 72) rfl ?_
                    refine j_aload_n dX8_sheet_72 (q := 73) rfl rfl ?_
                    refine j_getR (r := 84) fs_X8_49 rfl rfl rfl dX8_sheet_73 (q := 76) rfl ?_
                    refine j_iload_n dX8_sheet_76 (q := 77) rfl rfl ?_
                    refine j_iload_n dX8_sheet_77 (q := 78) rfl rfl ?_
                    refine j_if_ne dX8_sheet_78 (t := 85) (by decide) (q := 81) rfl (fun c_78 => ?_) (fun c_78 => ?_)
                    · skip
                      refine j_iload_n dX8_sheet_85 (q := 86) rfl rfl ?_
                      refine j_iastN rfl (by omega) dX8_sheet_86 (q := 87) rfl ?_
                      refine j_iconst (v := 0) dX8_sheet_87 (q := 88) rfl (by decide) ?_
                      refine j_istore_5_4 dX8_sheet_88 (q := 90) rfl rfl rfl ?_
                      exact sm_loop hk4 (σ0 := up (up σ 83 s b) 84 s (nI m)) (fun τ a c e => ⟨rfl, by rw [e 83 (by decide), up_row (by decide), up_own], by rw [e 84 (by decide), up_own, up_row (by decide)], a, fun j hj => (c j hj).trans (by rw [up_nc (by decide), up_nc (by decide)]), fun x x1 x2 x3 => (e x x3).trans ((up_row x2).trans (up_row x1))⟩) 24 0 _ rfl (fun j hj => absurd hj (by omega)) (fun _ _ => rfl) (fun _ _ => rfl)
                    · skip
                      exact absurd c_78 (by rcases hb with rfl | rfl | rfl <;> decide)
                  · skip
                    omega
              · skip
                omega
          · skip
            exact absurd (by rcases hb with h | h | h <;> simp_all) c_26
  · skip
    exact absurd (inK (b := 3) (by omega) (by decide)) c_4
