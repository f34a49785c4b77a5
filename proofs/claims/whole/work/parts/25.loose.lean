noncomputable def looN (t : Nat → Int32) (nc nf : Nat) : Nat → Nat → Int32
  | 0 => t
  | k + 1 => hourN (errN (looN t nc nf k) nc nf) nf
noncomputable def looP (t : Nat → Int32) (nc nf : Nat) : Nat → Int32
  | 0 => 0
  | k + 1 => looP t nc nf k + errP (looN t nc nf k) nc nf
theorem looN_keep {t : Nat → Int32} {nc nf m : Nat} (h4 : nc ≤ 4) (h7 : nf ≤ 7) (h : (3 ≤ m ∧ m < 7) ∨ 60 ≤ m) : ∀ k, looN t nc nf k m = t m := by
  intro k
  induction k with
  | zero => rfl
  | succ k ih => show hourN (errN (looN t nc nf k) nc nf) nf m = t m; rw [hourN_keep h7 (by omega), errN_keep h4 h7 (by omega), ih]
theorem BD_looN {t : Nat → Int32} (h : BD t) {nc nf : Nat} (h4 : nc ≤ 4) (h7 : nf ≤ 7) : ∀ k, BD (looN t nc nf k) := by
  intro k
  induction k with
  | zero => exact h
  | succ k ih => exact BD_hourN (BD_errN ih h4 h7) h7
theorem lc_loop {g : GT} {t : Nat → Int32} {nf nc n : Nat} {σ0 : S_} (hB : BD t) (hn : t 5 = nI nf) (h7 : nf ≤ 7) (hcn : t 6 = nI nc) (h4 : nc ≤ 4) (h24 : n ≤ 24) : ∀ (k i : Nat) (pay : Int32) (σ : S_), i + k = n → CW σ 8 (looN t nc nf i) → outN σ σ0 → pay = looP t nc nf i → J g 7 M_X7_loose (ZHi σ0 (looN t nc nf n) (looP t nc nf n)) 41 [.ref 0, .int (nI n), .int pay, .int (nI i)] [] σ := by
  intro k
  induction k with
  | zero =>
    intro i pay σ hik hC hO hp
    refine j_iload_n dX7_loose_41 (q := 42) rfl rfl ?_
    refine j_iload_n dX7_loose_42 (q := 43) rfl rfl ?_
    refine j_icmp_geN (by omega) (by omega) dX7_loose_43 (t := 69) (by decide) (q := 46) rfl (fun c_43 => ?_) (fun c_43 => ?_)
    · skip
      refine j_iload_n dX7_loose_69 (q := 70) rfl rfl ?_
      refine j_ireti dX7_loose_70 rfl ?_
      obtain rfl : i = n := by omega
      exact ⟨by rw [hp], hC, hO⟩
    · skip
      omega
  | succ k ih =>
    intro i pay σ hik hC hO hp
    refine j_iload_n dX7_loose_41 (q := 42) rfl rfl ?_
    refine j_iload_n dX7_loose_42 (q := 43) rfl rfl ?_
    refine j_icmp_geN (by omega) (by omega) dX7_loose_43 (t := 69) (by decide) (q := 46) rfl (fun c_43 => ?_) (fun c_43 => ?_)
    · skip
      omega
    · skip
      refine j_iload_n dX7_loose_46 (q := 47) rfl rfl ?_
      refine j_aload_n dX7_loose_47 (q := 48) rfl rfl ?_
      refine j_getR (r := 8) fs_X7_10 rfl rfl rfl dX7_loose_48 (q := 51) rfl ?_
      refine j_callVi0 (M' := M_X6_carryByDraws) lk_X7_197 mv_X6_carryByDraws ob_8 (by decide) (Nat.le_of_ble_eq_true rfl) dX7_loose_51 (q := 54) rfl (ct_X6_carryByDraws (BD_looN hB h4 h7 i) ((looN_keep h4 h7 (by omega) i).trans hn) h7 ((looN_keep h4 h7 (by omega) i).trans hcn) h4 hC) ?_
      intro x1 τ1 hz
      obtain ⟨h1, hC1, hO1⟩ := hz
      cases h1
      refine j_iadd dX7_loose_54 (q := 55) rfl ?_
      refine j_istore_n_4_2 dX7_loose_55 (q := 56) rfl rfl rfl ?_
      refine j_aload_n dX7_loose_56 (q := 57) rfl rfl ?_
      refine j_getR (r := 8) fs_X7_10 rfl rfl rfl dX7_loose_57 (q := 60) rfl ?_
      refine j_callVv0 (M' := M_X6_goOnAnHour) lk_X7_191 mv_X6_goOnAnHour ob_8 (by decide) (Nat.le_of_ble_eq_true rfl) dX7_loose_60 (q := 63) rfl (ct_X6_goOnAnHour (BD_errN (BD_looN hB h4 h7 i) h4 h7) ((errN_keep h4 h7 (by omega)).trans ((looN_keep h4 h7 (by omega) i).trans hn)) h7 hC1) ?_
      intro τ2 hz
      obtain ⟨-, hC2, hO2⟩ := hz
      refine j_iincN_4_3 dX7_loose_63 (q := 66) rfl rfl rfl ?_
      refine j_goto (q := 41) dX7_loose_66 (by decide) ?_
      exact ih (i + 1) _ τ2 (by omega) hC2 (fun x hx => (hO2 x hx).trans ((hO1 x hx).trans (hO x hx))) (by rw [hp]; rfl)
theorem lm_loop {g : GT} {t : Nat → Int32} {nf nc n : Nat} {σ0 : S_} (hB : BD t) (hn : t 5 = nI nf) (h7 : nf ≤ 7) (hcn : t 6 = nI nc) (h4 : nc ≤ 4) (h24 : n ≤ 24) {w2 : Int32} : ∀ (k i : Nat) (sum : Int32) (σ : S_), i + k = n → σ 71 = looN t nc nf i → outM σ σ0 → sum = looP t nc nf i → J g 6 M_X8_loose (ZMi σ0 (looN t nc nf n) (looP t nc nf n)) 23 [.ref 70, .int (nI n), .int w2, .int sum, .int (nI i)] [] σ := by
  intro k
  induction k with
  | zero =>
    intro i sum σ hik hs hO hp
    refine j_iload dX8_loose_23 (q := 25) rfl rfl ?_
    refine j_iload_n dX8_loose_25 (q := 26) rfl rfl ?_
    refine j_icmp_geN (by omega) (by omega) dX8_loose_26 (t := 46) (by decide) (q := 29) rfl (fun c_26 => ?_) (fun c_26 => ?_)
    · skip
      refine j_iload_n dX8_loose_46 (q := 47) rfl rfl ?_
      refine j_ireti dX8_loose_47 rfl ?_
      obtain rfl : i = n := by omega
      exact ⟨by rw [hp], hs, hO⟩
    · skip
      omega
  | succ k ih =>
    intro i sum σ hik hs hO hp
    refine j_iload dX8_loose_23 (q := 25) rfl rfl ?_
    refine j_iload_n dX8_loose_25 (q := 26) rfl rfl ?_
    refine j_icmp_geN (by omega) (by omega) dX8_loose_26 (t := 46) (by decide) (q := 29) rfl (fun c_26 => ?_) (fun c_26 => ?_)
    · skip
      omega
    · skip
      refine j_iload_n dX8_loose_29 (q := 30) rfl rfl ?_
      refine j_aload_n dX8_loose_30 (q := 31) rfl rfl ?_
      refine j_callVi0 (M' := M_X8_errand) lk_X8_193 mv_X8_errand ob_70 (by decide) (Nat.le_of_ble_eq_true rfl) dX8_loose_31 (q := 34) rfl (ct_X8_errand hs (BD_looN hB h4 h7 i) ((looN_keep h4 h7 (by omega) i).trans hn) h7 ((looN_keep h4 h7 (by omega) i).trans hcn) h4) ?_
      intro x1 τ1 hz
      obtain ⟨h1, hs1, hO1⟩ := hz
      cases h1
      refine j_iadd dX8_loose_34 (q := 35) rfl ?_
      refine j_istore_n_5_3 dX8_loose_35 (q := 36) rfl rfl rfl ?_
      refine j_aload_n dX8_loose_36 (q := 37) rfl rfl ?_
      refine j_callVv0 (M' := M_X8_anHour) lk_X8_187 mv_X8_anHour ob_70 (by decide) (Nat.le_of_ble_eq_true rfl) dX8_loose_37 (q := 40) rfl (ct_X8_anHour (by rw [hs1]; exact BD_errN (BD_looN hB h4 h7 i) h4 h7) ((congrFun hs1 5).trans ((errN_keep h4 h7 (by omega)).trans ((looN_keep h4 h7 (by omega) i).trans hn))) h7) ?_
      intro τ2 hz
      obtain ⟨-, hs2, hO2⟩ := hz
      rw [hs1] at hs2
      refine j_iincN_5_4 dX8_loose_40 (q := 43) rfl rfl rfl ?_
      refine j_goto (q := 23) dX8_loose_43 (by decide) ?_
      exact ih (i + 1) _ τ2 (by omega) hs2 (fun x h1 h2 h3 => (hO2 x h1 h2 h3).trans ((hO1 x h1 h2 h3).trans (hO x h1 h2 h3))) (by rw [hp]; rfl)
theorem ct_X7_loose_ok {g : GT} {σ : S_} {n nf nc : Nat} {t : Nat → Int32} (n1 : 1 ≤ n) (n2 : n ≤ 24) (hB : BD t) (hn : t 5 = nI nf) (h7 : nf ≤ 7) (hcn : t 6 = nI nc) (h4 : nc ≤ 4) (hC : CW σ 8 t) (h : t 0 + nI n ≤ 9999) : CT g 7 M_X7_loose [.ref 0, .int (nI n)] σ (ZHi σ (looN t nc nf n) (looP t nc nf n)) := by
  refine ct_of [.ref 0, .int (nI n), .null, .null] pn_X7_loose rfl (Nat.le_of_ble_eq_true rfl) ?_
  refine j_iload_n dX7_loose_0 (q := 1) rfl rfl ?_
  refine j_iconst (v := 1) dX7_loose_1 (q := 2) rfl (by decide) ?_
  refine j_bipush (v := 24) dX7_loose_2 (q := 4) rfl (by decide) ?_
  refine j_callSi3E (M' := M_X7_within) lk_X7_57 ms_X7_within (by decide) (Nat.le_of_ble_eq_true rfl) dX7_loose_4 (q := 7) rfl (ct_X7_within) ?_
  refine j_ifneB dX7_loose_7 (t := 16) (by decide) (q := 10) rfl (fun c_7 => ?_) (fun c_7 => ?_)
  · skip
    refine j_aload_n dX7_loose_16 (q := 17) rfl rfl ?_
    refine j_getR (r := 8) fs_X7_10 rfl rfl rfl dX7_loose_17 (q := 20) rfl ?_
    refine j_getIV fs_X7_100 rfl rfl (hC.at LM_hour) dX7_loose_20 (q := 23) rfl ?_
    refine j_iload_n dX7_loose_23 (q := 24) rfl rfl ?_
    refine j_iadd dX7_loose_24 (q := 25) rfl ?_
    refine j_sipush (v := 9999) dX7_loose_25 (q := 28) rfl (by decide) ?_
    refine j_icmp_le dX7_loose_28 (t := 37) (by decide) (q := 31) rfl (fun c_28 => ?_) (fun c_28 => ?_)
    · skip
      refine j_iconst (v := 0) dX7_loose_37 (q := 38) rfl (by decide) ?_
      refine j_istore_n_4_2 dX7_loose_38 (q := 39) rfl rfl rfl ?_
      refine j_iconst (v := 0) dX7_loose_39 (q := 40) rfl (by decide) ?_
      refine j_istore_n_4_3 dX7_loose_40 (q := 41) rfl rfl rfl ?_
      exact lc_loop hB hn h7 hcn h4 n2 n 0 _ σ (by omega) hC (fun _ _ => rfl) rfl
    · skip
      exact absurd h c_28
  · skip
    exact absurd ⟨nI_le (a := 1) n1 (by omega), nI_le (b := 24) n2 (by omega)⟩ c_7
theorem ct_X8_loose_ok {g : GT} {σ : S_} {n nf nc : Nat} {t : Nat → Int32} (hs : σ 71 = t) (n1 : 1 ≤ n) (n2 : n ≤ 24) (hB : BD t) (hn : t 5 = nI nf) (h7 : nf ≤ 7) (hcn : t 6 = nI nc) (h4 : nc ≤ 4) (h : σ 71 0 + nI n ≤ 9999) : CT g 6 M_X8_loose [.ref 70, .int (nI n)] σ (ZMi σ (looN t nc nf n) (looP t nc nf n)) := by
  refine ct_of [.ref 70, .int (nI n), .null, .null, .null] pn_X8_loose rfl (Nat.le_of_ble_eq_true rfl) ?_
  refine j_aload_n dX8_loose_0 (q := 1) rfl rfl ?_
  refine j_iload_n dX8_loose_1 (q := 2) rfl rfl ?_
  refine j_bipush (v := 24) dX8_loose_2 (q := 4) rfl (by decide) ?_
  refine j_callVi2E (M' := M_X8_whyNot) lk_X8_184 mv_X8_whyNot ob_70 (by decide) (Nat.le_of_ble_eq_true rfl) dX8_loose_4 (q := 7) rfl (ct_X8_whyNot_o ⟨nI_le (a := 1) n1 (by omega), nI_le (b := 24) n2 (by omega)⟩ h) ?_
  refine j_istore_n_5_2 dX8_loose_7 (q := 8) rfl rfl rfl ?_
  refine j_iload_n dX8_loose_8 (q := 9) rfl rfl ?_
  refine j_if_eq dX8_loose_9 (t := 18) (by decide) (q := 12) rfl (fun c_9 => ?_) (fun c_9 => ?_)
  · skip
    refine j_iconst (v := 0) dX8_loose_18 (q := 19) rfl (by decide) ?_
    refine j_istore_n_5_3 dX8_loose_19 (q := 20) rfl rfl rfl ?_
    refine j_iconst (v := 0) dX8_loose_20 (q := 21) rfl (by decide) ?_
    refine j_istore_5_4 dX8_loose_21 (q := 23) rfl rfl rfl ?_
    exact lm_loop hB hn h7 hcn h4 n2 n 0 _ σ (by omega) hs (fun _ _ _ _ => rfl) rfl
  · skip
    exact absurd c_9 (by decide)
