theorem SH_o {k : Nat} (h : k < 4) : tC[62 + 2 * k]? = some (3, 2) := by rcases (show k = 0 ∨ k = 1 ∨ k = 2 ∨ k = 3 by omega) with rfl | rfl | rfl | rfl <;> rfl
theorem SH_a {k : Nat} (h : k < 4) : tC[63 + 2 * k]? = some (0, 24) := by rcases (show k = 0 ∨ k = 1 ∨ k = 2 ∨ k = 3 by omega) with rfl | rfl | rfl | rfl <;> rfl
theorem SH_r {k : Nat} (h : k < 4) : rf (62 + 2 * k) 0 = 63 + 2 * k := by rcases (show k = 0 ∨ k = 1 ∨ k = 2 ∨ k = 3 by omega) with rfl | rfl | rfl | rfl <;> rfl
theorem SH_1 {k : Nat} (h : k < 4) : rf 1 k = 62 + 2 * k := by rcases (show k = 0 ∨ k = 1 ∨ k = 2 ∨ k = 3 by omega) with rfl | rfl | rfl | rfl <;> rfl
/-- as told, from place i on -/
def told (f num : Nat → Int32) : Nat → Nat → Bool
  | 0, _ => true
  | k + 1, i => decide (f i = num i) && told f num k (i + 1)
theorem told_ext {f f' num num' : Nat → Int32} : ∀ (k i : Nat), (∀ j, i ≤ j → j < i + k → f j = f' j ∧ num j = num' j) → told f num k i = told f' num' k i := by
  intro k
  induction k with
  | zero => intro i _; rfl
  | succ k ih => intro i h; unfold told; rw [(h i (Nat.le_refl _) (by omega)).1, (h i (Nat.le_refl _) (by omega)).2, ih (i + 1) (fun j a b => h j (by omega) (by omega))]
def fitB (t : Nat → Int32) (nf : Nat) (num : Nat → Int32) (sz k : Nat) : Bool := decide (sz ≤ nf) && told (dry4 (hoursN t nf k)) num sz 0
theorem ct_X2_isMissing {g : GT} {σ : S_} {k : Nat} (hk4 : k < 4) : CT g 0 M_X2_isMissing [.ref (62 + 2 * k)] σ (EQ (.int (bI (σ (62 + 2 * k) 1 = 0))) σ) := by
  refine ct_of [.ref (62 + 2 * k)] pn_X2_isMissing rfl (Nat.le_of_ble_eq_true rfl) ?_
  refine j_aload_n dX2_isMissing_0 (q := 1) rfl rfl ?_
  refine j_getI fs_X2_15 (SH_o hk4) rfl dX2_isMissing_1 (q := 4) rfl ?_
  refine j_if_ne dX2_isMissing_4 (t := 11) (by decide) (q := 7) rfl (fun c_4 => ?_) (fun c_4 => ?_)
  · skip
    refine j_iconst (v := 0) dX2_isMissing_11 (q := 12) rfl (by decide) ?_
    refine j_iretz dX2_isMissing_12 rfl (by decide) ?_
    exact ⟨congrArg Value.int (by unfold bI; grind), rfl⟩
  · skip
    refine j_iconst (v := 1) dX2_isMissing_7 (q := 8) rfl (by decide) ?_
    refine j_goto (q := 12) dX2_isMissing_8 (by decide) ?_
    refine j_iretz dX2_isMissing_12 rfl (by decide) ?_
    exact ⟨congrArg Value.int (by unfold bI; grind), rfl⟩
theorem at_loop {g : GT} {σ : S_} {s sz nf : Nat} (hk4 : s < 4) (hsz : σ (62 + 2 * s) 2 = nI sz) (h24 : sz ≤ 24) (hle : sz ≤ nf) (h7 : nf ≤ 7) : ∀ (k i : Nat) (Z : Value → S_ → Prop), i + k = sz → Z (.int (bI (told (σ 4) (σ (63 + 2 * s)) k i = true))) σ → J g 0 M_X4_isAsTold Z 18 [.ref 3, .ref (62 + 2 * s), .int (nI i)] [] σ := by
  intro k
  induction k with
  | zero =>
    intro i Z hik hZ
    refine j_iload_n dX4_isAsTold_18 (q := 19) rfl rfl ?_
    refine j_aload_n dX4_isAsTold_19 (q := 20) rfl rfl ?_
    refine j_getIV fs_X4_74 (SH_o hk4) rfl hsz dX4_isAsTold_20 (q := 23) rfl ?_
    refine j_icmp_geN (by omega) (by omega) dX4_isAsTold_23 (t := 49) (by decide) (q := 26) rfl (fun c_23 => ?_) (fun c_23 => ?_)
    · skip
      refine j_iconst (v := 1) dX4_isAsTold_49 (q := 50) rfl (by decide) ?_
      refine j_iretz dX4_isAsTold_50 rfl (by decide) ?_
      exact hZ
    · skip
      omega
  | succ k ih =>
    intro i Z hik hZ
    refine j_iload_n dX4_isAsTold_18 (q := 19) rfl rfl ?_
    refine j_aload_n dX4_isAsTold_19 (q := 20) rfl rfl ?_
    refine j_getIV fs_X4_74 (SH_o hk4) rfl hsz dX4_isAsTold_20 (q := 23) rfl ?_
    refine j_icmp_geN (by omega) (by omega) dX4_isAsTold_23 (t := 49) (by decide) (q := 26) rfl (fun c_23 => ?_) (fun c_23 => ?_)
    · skip
      omega
    · skip
      refine j_aload_n dX4_isAsTold_26 (q := 27) rfl rfl ?_
      refine j_getR (r := (63 + 2 * s)) fs_X4_79 (SH_o hk4) rfl (SH_r hk4) dX4_isAsTold_27 (q := 30) rfl ?_
      refine j_iload_n dX4_isAsTold_30 (q := 31) rfl rfl ?_
      refine j_ialdN (SH_a hk4) (by omega) dX4_isAsTold_31 (q := 32) rfl ?_
      refine j_aload_n dX4_isAsTold_32 (q := 33) rfl rfl ?_
      refine j_getR (r := 4) fs_X4_9 rfl rfl rfl dX4_isAsTold_33 (q := 36) rfl ?_
      refine j_iload_n dX4_isAsTold_36 (q := 37) rfl rfl ?_
      refine j_ialdN rfl (by omega) dX4_isAsTold_37 (q := 38) rfl ?_
      refine j_icmp_eq dX4_isAsTold_38 (t := 43) (by decide) (q := 41) rfl (fun c_38 => ?_) (fun c_38 => ?_)
      · skip
        refine j_iincN_3_2 dX4_isAsTold_43 (q := 46) rfl rfl rfl ?_
        refine j_goto (q := 18) dX4_isAsTold_46 (by decide) ?_
        refine ih (i + 1) Z (by omega) ?_
        rw [show told (σ 4) (σ (63 + 2 * s)) (k + 1) i = told (σ 4) (σ (63 + 2 * s)) k (i + 1) from by show (decide _ && _) = _; rw [decide_eq_true c_38.symm]; rfl] at hZ
        exact hZ
      · skip
        refine j_iconst (v := 0) dX4_isAsTold_41 (q := 42) rfl (by decide) ?_
        refine j_iretz dX4_isAsTold_42 rfl (by decide) ?_
        rw [bI_f (by unfold told; simp; intro q; exact absurd q.symm c_38)] at hZ
        exact hZ
theorem ct_X4_isAsTold {g : GT} {σ : S_} {t : Nat → Int32} {s sz nf : Nat} (hk4 : s < 4) (hsz : σ (62 + 2 * s) 2 = nI sz) (h24 : sz ≤ 24) (hn : t 5 = nI nf) (h7 : nf ≤ 7) (hC : CW σ 8 t) : CT g 0 M_X4_isAsTold [.ref 3, .ref (62 + 2 * s)] σ (EQ (.int (bI ((decide (sz ≤ nf) && told (σ 4) (σ (63 + 2 * s)) sz 0) = true))) σ) := by
  refine ct_of [.ref 3, .ref (62 + 2 * s), .null] pn_X4_isAsTold rfl (Nat.le_of_ble_eq_true rfl) ?_
  refine j_aload_n dX4_isAsTold_0 (q := 1) rfl rfl ?_
  refine j_getIV fs_X4_74 (SH_o hk4) rfl hsz dX4_isAsTold_1 (q := 4) rfl ?_
  refine j_aload_n dX4_isAsTold_4 (q := 5) rfl rfl ?_
  refine j_getR (r := 8) fs_X4_24 rfl rfl rfl dX4_isAsTold_5 (q := 8) rfl ?_
  refine j_getIV fs_X4_45 rfl rfl ((hC.at LM_farms).trans hn) dX4_isAsTold_8 (q := 11) rfl ?_
  refine j_icmp_leN (by omega) (by omega) dX4_isAsTold_11 (t := 16) (by decide) (q := 14) rfl (fun c_11 => ?_) (fun c_11 => ?_)
  · skip
    refine j_iconst (v := 0) dX4_isAsTold_16 (q := 17) rfl (by decide) ?_
    refine j_istore_n_3_2 dX4_isAsTold_17 (q := 18) rfl rfl rfl ?_
    refine at_loop hk4 hsz h24 c_11 h7 sz 0 _ (by omega) ⟨?_, rfl⟩
    rw [decide_eq_true c_11, Bool.true_and]
  · skip
    refine j_iconst (v := 0) dX4_isAsTold_14 (q := 15) rfl (by decide) ?_
    refine j_iretz dX4_isAsTold_15 rfl (by decide) ?_
    exact ⟨congrArg Value.int (by rw [bI_f (by simp; omega)]), rfl⟩
theorem TH.fit {σ σ0 : S_} {t : Nat → Int32} {nf k s sz : Nat} (hk4 : s < 4) (h : TH σ σ0 t nf k) : (decide (sz ≤ nf) && told (σ 4) (σ (63 + 2 * s)) sz 0) = fitB t nf (σ0 (63 + 2 * s)) sz k := by
  unfold fitB
  by_cases hle : sz ≤ nf
  · rw [decide_eq_true hle, Bool.true_and, Bool.true_and, h.2 (63 + 2 * s) (by omega) (by omega)]
    exact told_ext sz 0 (fun j _ hj => ⟨h.1 j (by omega), rfl⟩)
  · rw [decide_eq_false hle]; rfl
theorem ht_loop {g : GT} {t : Nat → Int32} {nf : Nat} {σ0 : S_} (hB : BD t) (hn : t 5 = nI nf) (h7 : nf ≤ 7) (hC : CW σ0 8 t) {s sz : Nat} (hk4 : s < 4) (hsz : σ0 (62 + 2 * s) 2 = nI sz) (h24 : sz ≤ 24) : ∀ (k i : Nat) (σ : S_), i + k = 73 → TH σ σ0 t nf i → J g 5 M_X4_hoursUntilAsTold (fun r τ => r = .int (if srch (fitB t nf (σ0 (63 + 2 * s)) sz) k i = 73 then -1 else nI (srch (fitB t nf (σ0 (63 + 2 * s)) sz) k i)) ∧ ∀ x, x ≠ 4 → x ≠ 26 → τ x = σ0 x) 6 [.ref 3, .ref (62 + 2 * s), .int (nI i)] [] σ := by
  intro k
  induction k with
  | zero =>
    intro i σ hik hH
    refine j_iload_n dX4_hoursUntilAsTold_6 (q := 7) rfl rfl ?_
    refine j_bipush (v := 72) dX4_hoursUntilAsTold_7 (q := 9) rfl (by decide) ?_
    refine j_icmp_gtN (b := 72) (by omega) (by omega) dX4_hoursUntilAsTold_9 (t := 41) (by decide) (q := 12) rfl (fun c_9 => ?_) (fun c_9 => ?_)
    · skip
      refine j_iconst (v := (-1)) dX4_hoursUntilAsTold_41 (q := 42) rfl (by decide) ?_
      refine j_ireti dX4_hoursUntilAsTold_42 rfl ?_
      obtain rfl : i = 73 := by omega
      exact ⟨congrArg Value.int (if_pos rfl).symm, hH.2⟩
    · skip
      omega
  | succ k ih =>
    intro i σ hik hH
    refine j_iload_n dX4_hoursUntilAsTold_6 (q := 7) rfl rfl ?_
    refine j_bipush (v := 72) dX4_hoursUntilAsTold_7 (q := 9) rfl (by decide) ?_
    refine j_icmp_gtN (b := 72) (by omega) (by omega) dX4_hoursUntilAsTold_9 (t := 41) (by decide) (q := 12) rfl (fun c_9 => ?_) (fun c_9 => ?_)
    · skip
      omega
    · skip
      refine j_aload_n dX4_hoursUntilAsTold_12 (q := 13) rfl rfl ?_
      refine j_aload_n dX4_hoursUntilAsTold_13 (q := 14) rfl rfl ?_
      refine j_callVi1E (M' := M_X4_isAsTold) lk_X4_70 mv_X4_isAsTold ob_3 (by decide) (Nat.le_of_ble_eq_true rfl) dX4_hoursUntilAsTold_14 (q := 17) rfl (ct_X4_isAsTold hk4 ((congrFun (hH.2 (62 + 2 * s) (by omega) (by omega)) 2).trans hsz) h24 hn h7 (hH.cw hC)) ?_
      refine j_ifeqB dX4_hoursUntilAsTold_17 (t := 22) (by decide) (q := 20) rfl (fun c_17 => ?_) (fun c_17 => ?_)
      · skip
        have hb : srch (fitB t nf (σ0 (63 + 2 * s)) sz) (k + 1) i = i := if_pos (by rw [← hH.fit hk4]; exact c_17)
        rw [hb]
        refine j_iload_n dX4_hoursUntilAsTold_20 (q := 21) rfl rfl ?_
        refine j_ireti dX4_hoursUntilAsTold_21 rfl ?_
        exact ⟨congrArg Value.int (if_neg (by omega)).symm, hH.2⟩
      · skip
        have hb : srch (fitB t nf (σ0 (63 + 2 * s)) sz) (k + 1) i = srch (fitB t nf (σ0 (63 + 2 * s)) sz) k (i + 1) := if_neg (by rw [← hH.fit hk4]; exact c_17)
        rw [hb]
        refine j_aload_n dX4_hoursUntilAsTold_22 (q := 23) rfl rfl ?_
        refine j_aload_n dX4_hoursUntilAsTold_23 (q := 24) rfl rfl ?_
        refine j_getR (r := 8) fs_X4_24 rfl rfl rfl dX4_hoursUntilAsTold_24 (q := 27) rfl ?_
        refine j_getIV fs_X4_31 rfl rfl ((hH.cw hC).at LM_hour) dX4_hoursUntilAsTold_27 (q := 30) rfl ?_
        refine j_iload_n dX4_hoursUntilAsTold_30 (q := 31) rfl rfl ?_
        refine j_iadd dX4_hoursUntilAsTold_31 (q := 32) rfl ?_
        refine j_callVv1 (M' := M_X4_goAhead) lk_X4_37 mv_X4_goAhead ob_3 (by decide) (Nat.le_of_ble_eq_true rfl) dX4_hoursUntilAsTold_32 (q := 35) rfl (ct_X4_goAhead hn h7 hB.t0 (hH.cw hC) (fun m hm => hoursN_kM h7 hm i) hH.1 (hoursN_0 h7 i).symm) ?_
        intro τ1 hz
        obtain ⟨-, g1, g2⟩ := hz
        have hH1 := hH.next hB h7 g1 g2
        refine j_iincN_3_2 dX4_hoursUntilAsTold_35 (q := 38) rfl rfl rfl ?_
        refine j_goto (q := 6) dX4_hoursUntilAsTold_38 (by decide) ?_
        exact ih (i + 1) τ1 (by omega) hH1
theorem ct_X4_hoursUntilAsTold {g : GT} {σ : S_} {t : Nat → Int32} {nf : Nat} (hB : BD t) (hn : t 5 = nI nf) (h7 : nf ≤ 7) (hC : CW σ 8 t) {s sz : Nat} (hk4 : s < 4) (hsz : σ (62 + 2 * s) 2 = nI sz) (h24 : sz ≤ 24) : CT g 5 M_X4_hoursUntilAsTold [.ref 3, .ref (62 + 2 * s)] σ (fun r τ => r = .int (if srch (fitB t nf (σ (63 + 2 * s)) sz) 73 0 = 73 then -1 else nI (srch (fitB t nf (σ (63 + 2 * s)) sz) 73 0)) ∧ ∀ x, x ≠ 4 → x ≠ 26 → τ x = σ x) := by
  refine ct_of [.ref 3, .ref (62 + 2 * s), .null] pn_X4_hoursUntilAsTold rfl (Nat.le_of_ble_eq_true rfl) ?_
  refine j_aload_n dX4_hoursUntilAsTold_0 (q := 1) rfl rfl ?_
  refine j_callVv0 (M' := M_X4_startAhead) lk_X4_28 mv_X4_startAhead ob_3 (by decide) (Nat.le_of_ble_eq_true rfl) dX4_hoursUntilAsTold_1 (q := 4) rfl (ct_X4_startAhead hn h7 hC) ?_
  intro τ0 hz
  obtain ⟨-, g1, g2⟩ := hz
  have hH : TH τ0 σ t nf 0 := ⟨g1, fun x a _ => g2 x a⟩
  refine j_iconst (v := 0) dX4_hoursUntilAsTold_4 (q := 5) rfl (by decide) ?_
  refine j_istore_n_3_2 dX4_hoursUntilAsTold_5 (q := 6) rfl rfl rfl ?_
  exact ht_loop (σ0 := σ) hB hn h7 hC hk4 hsz h24 73 0 τ0 rfl hH
theorem ct_X7_fits_no {g : GT} {σ : S_} {s : Int32} (h : ¬ (0 ≤ s ∧ s ≤ 3)) : CT g 2 M_X7_fits [.ref 0, .int s] σ (EQ (.int (-1000000001)) (rfz σ 1)) := by
  refine ct_of [.ref 0, .int s, .null] pn_X7_fits rfl (Nat.le_of_ble_eq_true rfl) ?_
  refine j_iload_n dX7_fits_0 (q := 1) rfl rfl ?_
  refine j_callSi1E (M' := M_X7_isSheet) lk_X7_242 ms_X7_isSheet (by decide) (Nat.le_of_ble_eq_true rfl) dX7_fits_1 (q := 4) rfl (ct_X7_isSheet) ?_
  refine j_ifneB dX7_fits_4 (t := 13) (by decide) (q := 7) rfl (fun c_4 => ?_) (fun c_4 => ?_)
  · skip
    exact absurd c_4 h
  · skip
    refine j_aload_n dX7_fits_7 (q := 8) rfl rfl ?_
    refine j_iconst (v := 1) dX7_fits_8 (q := 9) rfl (by decide) ?_
    refine j_callVi1E (M' := M_X7_refuse) lk_X7_61 mv_X7_refuse ob_0 (by decide) (Nat.le_of_ble_eq_true rfl) dX7_fits_9 (q := 12) rfl (ct_ref1) ?_
    refine j_ireti dX7_fits_12 rfl ?_
    exact ⟨rfl, rfl⟩
theorem ct_X7_fits_gone {g : GT} {σ : S_} {s : Nat} (hk4 : s < 4) (hb : σ (62 + 2 * s) 1 = 0) : CT g 2 M_X7_fits [.ref 0, .int (nI s)] σ (EQ (.int (-1000000002)) (rfz σ 2)) := by
  refine ct_of [.ref 0, .int (nI s), .null] pn_X7_fits rfl (Nat.le_of_ble_eq_true rfl) ?_
  refine j_iload_n dX7_fits_0 (q := 1) rfl rfl ?_
  refine j_callSi1E (M' := M_X7_isSheet) lk_X7_242 ms_X7_isSheet (by decide) (Nat.le_of_ble_eq_true rfl) dX7_fits_1 (q := 4) rfl (ct_X7_isSheet) ?_
  refine j_ifneB dX7_fits_4 (t := 13) (by decide) (q := 7) rfl (fun c_4 => ?_) (fun c_4 => ?_)
  · skip
    refine j_aload_n dX7_fits_13 (q := 14) rfl rfl ?_
    refine j_getR (r := 1) fs_X7_44 rfl rfl rfl dX7_fits_14 (q := 17) rfl ?_
    refine j_iload_n dX7_fits_17 (q := 18) rfl rfl ?_
    refine j_aaldN rfl (by omega) (SH_1 hk4) dX7_fits_18 (q := 19) rfl ?_
    refine j_callVi0E (M' := M_X2_isMissing) lk_X7_245 mv_X2_isMissing (ob_of (SH_o hk4) rfl) (by decide) (Nat.le_of_ble_eq_true rfl) dX7_fits_19 (q := 22) rfl (ct_X2_isMissing hk4) ?_
    refine j_ifeqB dX7_fits_22 (t := 31) (by decide) (q := 25) rfl (fun c_22 => ?_) (fun c_22 => ?_)
    · skip
      refine j_aload_n dX7_fits_25 (q := 26) rfl rfl ?_
      refine j_iconst (v := 2) dX7_fits_26 (q := 27) rfl (by decide) ?_
      refine j_callVi1E (M' := M_X7_refuse) lk_X7_61 mv_X7_refuse ob_0 (by decide) (Nat.le_of_ble_eq_true rfl) dX7_fits_27 (q := 30) rfl (ct_ref2) ?_
      refine j_ireti dX7_fits_30 rfl ?_
      exact ⟨rfl, rfl⟩
    · skip
      exact absurd hb c_22
  · skip
    exact absurd (inK (b := 3) (by omega) (by decide)) c_4
theorem ct_X7_fits_ok {g : GT} {σ : S_} {t : Nat → Int32} {nf : Nat} (hB : BD t) (hn : t 5 = nI nf) (h7 : nf ≤ 7) (hC : CW σ 8 t) {s sz : Nat} (hk4 : s < 4) (hsz : σ (62 + 2 * s) 2 = nI sz) (h24 : sz ≤ 24) (hb : ¬ σ (62 + 2 * s) 1 = 0) : CT g 6 M_X7_fits [.ref 0, .int (nI s)] σ (fun r τ => (srch (fitB t nf (σ (63 + 2 * s)) sz) 73 0 = 73 ∧ r = .int (-1000000002) ∧ ∃ τ0, τ = rfz τ0 2 ∧ ∀ x, x ≠ 4 → x ≠ 26 → τ0 x = σ x) ∨ (srch (fitB t nf (σ (63 + 2 * s)) sz) 73 0 < 73 ∧ r = .int (nI (srch (fitB t nf (σ (63 + 2 * s)) sz) 73 0)) ∧ ∀ x, x ≠ 4 → x ≠ 26 → τ x = σ x)) := by
  refine ct_of [.ref 0, .int (nI s), .null] pn_X7_fits rfl (Nat.le_of_ble_eq_true rfl) ?_
  refine j_iload_n dX7_fits_0 (q := 1) rfl rfl ?_
  refine j_callSi1E (M' := M_X7_isSheet) lk_X7_242 ms_X7_isSheet (by decide) (Nat.le_of_ble_eq_true rfl) dX7_fits_1 (q := 4) rfl (ct_X7_isSheet) ?_
  refine j_ifneB dX7_fits_4 (t := 13) (by decide) (q := 7) rfl (fun c_4 => ?_) (fun c_4 => ?_)
  · skip
    refine j_aload_n dX7_fits_13 (q := 14) rfl rfl ?_
    refine j_getR (r := 1) fs_X7_44 rfl rfl rfl dX7_fits_14 (q := 17) rfl ?_
    refine j_iload_n dX7_fits_17 (q := 18) rfl rfl ?_
    refine j_aaldN rfl (by omega) (SH_1 hk4) dX7_fits_18 (q := 19) rfl ?_
    refine j_callVi0E (M' := M_X2_isMissing) lk_X7_245 mv_X2_isMissing (ob_of (SH_o hk4) rfl) (by decide) (Nat.le_of_ble_eq_true rfl) dX7_fits_19 (q := 22) rfl (ct_X2_isMissing hk4) ?_
    refine j_ifeqB dX7_fits_22 (t := 31) (by decide) (q := 25) rfl (fun c_22 => ?_) (fun c_22 => ?_)
    · skip
      exact absurd c_22 hb
    · skip
      refine j_aload_n dX7_fits_31 (q := 32) rfl rfl ?_
      refine j_getR (r := 3) fs_X7_24 rfl rfl rfl dX7_fits_32 (q := 35) rfl ?_
      refine j_aload_n dX7_fits_35 (q := 36) rfl rfl ?_
      refine j_getR (r := 1) fs_X7_44 rfl rfl rfl dX7_fits_36 (q := 39) rfl ?_
      refine j_iload_n dX7_fits_39 (q := 40) rfl rfl ?_
      refine j_aaldN rfl (by omega) (SH_1 hk4) dX7_fits_40 (q := 41) rfl ?_
      refine j_callVi1 (M' := M_X4_hoursUntilAsTold) lk_X7_248 mv_X4_hoursUntilAsTold ob_3 (by decide) (Nat.le_of_ble_eq_true rfl) dX7_fits_41 (q := 44) rfl (ct_X4_hoursUntilAsTold hB hn h7 hC hk4 hsz h24) ?_
      intro x1 τ1 hz
      obtain ⟨h1, hF⟩ := hz
      cases h1
      refine j_istore_n_3_2 dX7_fits_44 (q := 45) rfl rfl rfl ?_
      refine j_iload_n dX7_fits_45 (q := 46) rfl rfl ?_
      refine j_if_ge dX7_fits_46 (t := 57) (by decide) (q := 49) rfl (fun c_46 => ?_) (fun c_46 => ?_)
      · skip
        refine j_iload_n dX7_fits_57 (q := 58) rfl rfl ?_
        refine j_ireti dX7_fits_58 rfl ?_
        by_cases q : srch (fitB t nf (σ (63 + 2 * s)) sz) 73 0 = 73
        · rw [if_pos q] at c_46; exact absurd c_46 (by decide)
        · rw [if_neg q]; exact Or.inr ⟨by have := (srch_le (P := fitB t nf (σ (63 + 2 * s)) sz) 73 0).2; omega, rfl, hF⟩
      · skip
        refine j_aload_n dX7_fits_49 (q := 50) rfl rfl ?_
        refine j_iconst (v := 2) dX7_fits_50 (q := 51) rfl (by decide) ?_
        refine j_callVi1E (M' := M_X7_refuse) lk_X7_61 mv_X7_refuse ob_0 (by decide) (Nat.le_of_ble_eq_true rfl) dX7_fits_51 (q := 54) rfl (ct_ref2) ?_
        refine j_goto (q := 58) dX7_fits_54 (by decide) ?_
        refine j_ireti dX7_fits_58 rfl ?_
        by_cases q : srch (fitB t nf (σ (63 + 2 * s)) sz) 73 0 = 73
        · exact Or.inl ⟨q, rfl, τ1, rfl, hF⟩
        · rw [if_neg q] at c_46; exact absurd (nI_le (a := 0) (b := srch (fitB t nf (σ (63 + 2 * s)) sz) 73 0) (Nat.zero_le _) (by have := (srch_le (P := fitB t nf (σ (63 + 2 * s)) sz) 73 0).2; omega)) c_46
  · skip
    exact absurd (inK (b := 3) (by omega) (by decide)) c_4
theorem ct_X8_lacks_b {g : GT} {σ : S_} {s : Int32} (h : ¬ (0 ≤ s ∧ s ≤ 3)) : CT g 2 M_X8_lacks [.ref 70, .int s] σ (EQ (.int 1) σ) := by
  refine ct_of [.ref 70, .int s] pn_X8_lacks rfl (Nat.le_of_ble_eq_true rfl) ?_
  refine j_iload_n dX8_lacks_0 (q := 1) rfl rfl ?_
  refine j_callSi1E (M' := M_X8_isSheet) lk_X8_252 ms_X8_isSheet (by decide) (Nat.le_of_ble_eq_true rfl) dX8_lacks_1 (q := 4) rfl (ct_X8_isSheet) ?_
  refine j_ifneB dX8_lacks_4 (t := 11) (by decide) (q := 7) rfl (fun c_4 => ?_) (fun c_4 => ?_)
  · skip
    exact absurd c_4 h
  · skip
    refine j_iconst (v := 1) dX8_lacks_7 (q := 8) rfl (by decide) ?_
    refine j_goto (q := 25) dX8_lacks_8 (by decide) ?_
    refine j_ireti dX8_lacks_25 rfl ?_
    exact ⟨rfl, rfl⟩
theorem ct_X8_lacks_g {g : GT} {σ : S_} {s : Nat} (hk4 : s < 4) (hb : σ 83 s = 0) : CT g 2 M_X8_lacks [.ref 70, .int (nI s)] σ (EQ (.int 2) σ) := by
  refine ct_of [.ref 70, .int (nI s)] pn_X8_lacks rfl (Nat.le_of_ble_eq_true rfl) ?_
  refine j_iload_n dX8_lacks_0 (q := 1) rfl rfl ?_
  refine j_callSi1E (M' := M_X8_isSheet) lk_X8_252 ms_X8_isSheet (by decide) (Nat.le_of_ble_eq_true rfl) dX8_lacks_1 (q := 4) rfl (ct_X8_isSheet) ?_
  refine j_ifneB dX8_lacks_4 (t := 11) (by decide) (q := 7) rfl (fun c_4 => ?_) (fun c_4 => ?_)
  · skip
    refine j_aload_n dX8_lacks_11 (q := 12) rfl rfl ?_
    refine j_getR (r := 83) fs_X8_46 rfl rfl rfl dX8_lacks_12 (q := 15) rfl ?_
    refine j_iload_n dX8_lacks_15 (q := 16) rfl rfl ?_
    refine j_ialdN rfl (by omega) dX8_lacks_16 (q := 17) rfl ?_
    refine j_if_ne dX8_lacks_17 (t := 24) (by decide) (q := 20) rfl (fun c_17 => ?_) (fun c_17 => ?_)
    · skip
      exact absurd hb c_17
    · skip
      refine j_iconst (v := 2) dX8_lacks_20 (q := 21) rfl (by decide) ?_
      refine j_goto (q := 25) dX8_lacks_21 (by decide) ?_
      refine j_ireti dX8_lacks_25 rfl ?_
      exact ⟨rfl, rfl⟩
  · skip
    exact absurd (inK (b := 3) (by omega) (by decide)) c_4
theorem ct_X8_lacks_o {g : GT} {σ : S_} {s : Nat} (hk4 : s < 4) (hb : ¬ σ 83 s = 0) : CT g 2 M_X8_lacks [.ref 70, .int (nI s)] σ (EQ (.int 0) σ) := by
  refine ct_of [.ref 70, .int (nI s)] pn_X8_lacks rfl (Nat.le_of_ble_eq_true rfl) ?_
  refine j_iload_n dX8_lacks_0 (q := 1) rfl rfl ?_
  refine j_callSi1E (M' := M_X8_isSheet) lk_X8_252 ms_X8_isSheet (by decide) (Nat.le_of_ble_eq_true rfl) dX8_lacks_1 (q := 4) rfl (ct_X8_isSheet) ?_
  refine j_ifneB dX8_lacks_4 (t := 11) (by decide) (q := 7) rfl (fun c_4 => ?_) (fun c_4 => ?_)
  · skip
    refine j_aload_n dX8_lacks_11 (q := 12) rfl rfl ?_
    refine j_getR (r := 83) fs_X8_46 rfl rfl rfl dX8_lacks_12 (q := 15) rfl ?_
    refine j_iload_n dX8_lacks_15 (q := 16) rfl rfl ?_
    refine j_ialdN rfl (by omega) dX8_lacks_16 (q := 17) rfl ?_
    refine j_if_ne dX8_lacks_17 (t := 24) (by decide) (q := 20) rfl (fun c_17 => ?_) (fun c_17 => ?_)
    · skip
      refine j_iconst (v := 0) dX8_lacks_24 (q := 25) rfl (by decide) ?_
      refine j_ireti dX8_lacks_25 rfl ?_
      exact ⟨rfl, rfl⟩
    · skip
      exact absurd c_17 hb
  · skip
    exact absurd (inK (b := 3) (by omega) (by decide)) c_4
theorem ad_out {g : GT} {σ : S_} {s sz i : Nat} {Z : Value → S_ → Prop} (hk4 : s < 4) (hsz : σ 84 s = nI sz) (hi : i ≤ 24 ∧ sz ≤ 24) (hZ : Z (.int 0) σ) : J g 1 M_X8_areDrySo Z 23 [.ref 70, .int (nI s), .int 0, .int (nI i)] [] σ := by
  refine j_iload_n dX8_areDrySo_23 (q := 24) rfl rfl ?_
  refine j_aload_n dX8_areDrySo_24 (q := 25) rfl rfl ?_
  refine j_getR (r := 84) fs_X8_49 rfl rfl rfl dX8_areDrySo_25 (q := 28) rfl ?_
  refine j_iload_n dX8_areDrySo_28 (q := 29) rfl rfl ?_
  refine j_ialdV rfl (by omega) hsz dX8_areDrySo_29 (q := 30) rfl ?_
  refine j_icmp_geN (by omega) (by omega) dX8_areDrySo_30 (t := 69) (by decide) (q := 33) rfl (fun c_30 => ?_) (fun c_30 => ?_)
  · skip
    refine j_iload_n dX8_areDrySo_69 (q := 70) rfl rfl ?_
    refine j_iretz dX8_areDrySo_70 rfl (by decide) ?_
    exact hZ
  · skip
    refine j_iload_n dX8_areDrySo_33 (q := 34) rfl rfl ?_
    refine j_if_eq dX8_areDrySo_34 (t := 69) (by decide) (q := 37) rfl (fun c_34 => ?_) (fun c_34 => ?_)
    · skip
      refine j_iload_n dX8_areDrySo_69 (q := 70) rfl rfl ?_
      refine j_iretz dX8_areDrySo_70 rfl (by decide) ?_
      exact hZ
    · skip
      exact absurd c_34 (by decide)
theorem ad_loop {g : GT} {σ : S_} {s sz nf : Nat} (hk4 : s < 4) (hsz : σ 84 s = nI sz) (h24 : sz ≤ 24) (hle : sz ≤ nf) (h7 : nf ≤ 7) : ∀ (k i : Nat) (Z : Value → S_ → Prop), i + k = sz → Z (.int (bI (told (dry4 (σ 71)) (fun j => σ 85 (24 * s + j)) k i = true))) σ → J g 1 M_X8_areDrySo Z 23 [.ref 70, .int (nI s), .int 1, .int (nI i)] [] σ := by
  intro k
  induction k with
  | zero =>
    intro i Z hik hZ
    refine j_iload_n dX8_areDrySo_23 (q := 24) rfl rfl ?_
    refine j_aload_n dX8_areDrySo_24 (q := 25) rfl rfl ?_
    refine j_getR (r := 84) fs_X8_49 rfl rfl rfl dX8_areDrySo_25 (q := 28) rfl ?_
    refine j_iload_n dX8_areDrySo_28 (q := 29) rfl rfl ?_
    refine j_ialdV rfl (by omega) hsz dX8_areDrySo_29 (q := 30) rfl ?_
    refine j_icmp_geN (by omega) (by omega) dX8_areDrySo_30 (t := 69) (by decide) (q := 33) rfl (fun c_30 => ?_) (fun c_30 => ?_)
    · skip
      refine j_iload_n dX8_areDrySo_69 (q := 70) rfl rfl ?_
      refine j_iretz dX8_areDrySo_70 rfl (by decide) ?_
      exact hZ
    · skip
      omega
  | succ k ih =>
    intro i Z hik hZ
    refine j_iload_n dX8_areDrySo_23 (q := 24) rfl rfl ?_
    refine j_aload_n dX8_areDrySo_24 (q := 25) rfl rfl ?_
    refine j_getR (r := 84) fs_X8_49 rfl rfl rfl dX8_areDrySo_25 (q := 28) rfl ?_
    refine j_iload_n dX8_areDrySo_28 (q := 29) rfl rfl ?_
    refine j_ialdV rfl (by omega) hsz dX8_areDrySo_29 (q := 30) rfl ?_
    refine j_icmp_geN (by omega) (by omega) dX8_areDrySo_30 (t := 69) (by decide) (q := 33) rfl (fun c_30 => ?_) (fun c_30 => ?_)
    · skip
      omega
    · skip
      refine j_iload_n dX8_areDrySo_33 (q := 34) rfl rfl ?_
      refine j_if_eq dX8_areDrySo_34 (t := 69) (by decide) (q := 37) rfl (fun c_34 => ?_) (fun c_34 => ?_)
      · skip
        exact absurd c_34 (by decide)
      · skip
        refine j_aload_n dX8_areDrySo_37 (q := 38) rfl rfl ?_
        refine j_iload_n dX8_areDrySo_38 (q := 39) rfl rfl ?_
        refine j_iconst (v := 4) dX8_areDrySo_39 (q := 40) rfl (by decide) ?_
        refine j_callVi2E (M' := M_X8_its) lk_X8_123 mv_X8_its ob_70 (by decide) (Nat.le_of_ble_eq_true rfl) dX8_areDrySo_40 (q := 43) rfl (ct_X8_its (k := 4) (by omega) (by decide)) ?_
        refine j_aload_n dX8_areDrySo_43 (q := 44) rfl rfl ?_
        refine j_getR (r := 85) fs_X8_52 rfl rfl rfl dX8_areDrySo_44 (q := 47) rfl ?_
        refine j_bipush (v := 24) dX8_areDrySo_47 (q := 49) rfl (by decide) ?_
        refine j_iload_n dX8_areDrySo_49 (q := 50) rfl rfl ?_
        refine j_imulN (a := 24) dX8_areDrySo_50 (q := 51) rfl ?_
        refine j_iload_n dX8_areDrySo_51 (q := 52) rfl rfl ?_
        refine j_iaddN dX8_areDrySo_52 (q := 53) rfl ?_
        refine j_ialdN rfl (by omega) dX8_areDrySo_53 (q := 54) rfl ?_
        refine j_icmp_ne dX8_areDrySo_54 (t := 61) (by decide) (q := 57) rfl (fun c_54 => ?_) (fun c_54 => ?_)
        · skip
          refine j_iconst (v := 0) dX8_areDrySo_61 (q := 62) rfl (by decide) ?_
          refine j_istore_n_4_2 dX8_areDrySo_62 (q := 63) rfl rfl rfl ?_
          refine j_iincN_4_3 dX8_areDrySo_63 (q := 66) rfl rfl rfl ?_
          refine j_goto (q := 23) dX8_areDrySo_66 (by decide) ?_
          rw [bI_f (by unfold told; simp; intro q; exact absurd q c_54)] at hZ
          exact ad_out hk4 hsz (by omega) hZ
        · skip
          refine j_iconst (v := 1) dX8_areDrySo_57 (q := 58) rfl (by decide) ?_
          refine j_goto (q := 62) dX8_areDrySo_58 (by decide) ?_
          refine j_istore_n_4_2 dX8_areDrySo_62 (q := 63) rfl rfl rfl ?_
          refine j_iincN_4_3 dX8_areDrySo_63 (q := 66) rfl rfl rfl ?_
          refine j_goto (q := 23) dX8_areDrySo_66 (by decide) ?_
          refine ih (i + 1) Z (by omega) ?_
          rw [show told (dry4 (σ 71)) (fun j => σ 85 (24 * s + j)) (k + 1) i = told (dry4 (σ 71)) (fun j => σ 85 (24 * s + j)) k (i + 1) from by show (decide _ && _) = _; rw [decide_eq_true (show dry4 (σ 71) i = σ 85 (24 * s + i) from c_54)]; rfl] at hZ
          exact hZ
theorem ct_X8_areDrySo {g : GT} {σ : S_} {s sz nf : Nat} (hk4 : s < 4) (hsz : σ 84 s = nI sz) (h24 : sz ≤ 24) (hn : σ 71 5 = nI nf) (h7 : nf ≤ 7) : CT g 1 M_X8_areDrySo [.ref 70, .int (nI s)] σ (EQ (.int (bI ((decide (sz ≤ nf) && told (dry4 (σ 71)) (fun j => σ 85 (24 * s + j)) sz 0) = true))) σ) := by
  refine ct_of [.ref 70, .int (nI s), .null, .null] pn_X8_areDrySo rfl (Nat.le_of_ble_eq_true rfl) ?_
  refine j_aload_n dX8_areDrySo_0 (q := 1) rfl rfl ?_
  refine j_getR (r := 84) fs_X8_49 rfl rfl rfl dX8_areDrySo_1 (q := 4) rfl ?_
  refine j_iload_n dX8_areDrySo_4 (q := 5) rfl rfl ?_
  refine j_ialdV rfl (by omega) hsz dX8_areDrySo_5 (q := 6) rfl ?_
  refine j_aload_n dX8_areDrySo_6 (q := 7) rfl rfl ?_
  refine j_getR (r := 71) fs_X8_7 rfl rfl rfl dX8_areDrySo_7 (q := 10) rfl ?_
  refine j_iconst (v := 5) dX8_areDrySo_10 (q := 11) rfl (by decide) ?_
  refine j_ialdV (k := 5) rfl (by decide) hn dX8_areDrySo_11 (q := 12) rfl ?_
  refine j_icmp_gtN (by omega) (by omega) dX8_areDrySo_12 (t := 19) (by decide) (q := 15) rfl (fun c_12 => ?_) (fun c_12 => ?_)
  · skip
    refine j_iconst (v := 0) dX8_areDrySo_19 (q := 20) rfl (by decide) ?_
    refine j_istore_n_4_2 dX8_areDrySo_20 (q := 21) rfl rfl rfl ?_
    refine j_iconst (v := 0) dX8_areDrySo_21 (q := 22) rfl (by decide) ?_
    refine j_istore_n_4_3 dX8_areDrySo_22 (q := 23) rfl rfl rfl ?_
    exact ad_out (i := 0) hk4 hsz (by omega) ⟨by rw [bI_f (by simp; omega)], rfl⟩
  · skip
    refine j_iconst (v := 1) dX8_areDrySo_15 (q := 16) rfl (by decide) ?_
    refine j_goto (q := 20) dX8_areDrySo_16 (by decide) ?_
    refine j_istore_n_4_2 dX8_areDrySo_20 (q := 21) rfl rfl rfl ?_
    refine j_iconst (v := 0) dX8_areDrySo_21 (q := 22) rfl (by decide) ?_
    refine j_istore_n_4_3 dX8_areDrySo_22 (q := 23) rfl rfl rfl ?_
    refine ad_loop hk4 hsz h24 (by omega) h7 sz 0 _ (by omega) ⟨?_, rfl⟩
    rw [decide_eq_true (show sz ≤ nf by omega), Bool.true_and]
theorem ct_X8_fits_no {g : GT} {σ : S_} {s : Int32} (h : ¬ (0 ≤ s ∧ s ≤ 3)) : CT g 3 M_X8_fits [.ref 70, .int s] σ (EQ (.int (-1000000001)) (rfm σ 1)) := by
  refine ct_of [.ref 70, .int s, .null, .null] pn_X8_fits rfl (Nat.le_of_ble_eq_true rfl) ?_
  refine j_aload_n dX8_fits_0 (q := 1) rfl rfl ?_
  refine j_iload_n dX8_fits_1 (q := 2) rfl rfl ?_
  refine j_callVi1E (M' := M_X8_lacks) lk_X8_214 mv_X8_lacks ob_70 (by decide) (Nat.le_of_ble_eq_true rfl) dX8_fits_2 (q := 5) rfl (ct_X8_lacks_b h) ?_
  refine j_istore_n_4_2 dX8_fits_5 (q := 6) rfl rfl rfl ?_
  refine j_iload_n dX8_fits_6 (q := 7) rfl rfl ?_
  refine j_if_eq dX8_fits_7 (t := 16) (by decide) (q := 10) rfl (fun c_7 => ?_) (fun c_7 => ?_)
  · skip
    exact absurd c_7 (by decide)
  · skip
    refine j_aload_n dX8_fits_10 (q := 11) rfl rfl ?_
    refine j_iload_n dX8_fits_11 (q := 12) rfl rfl ?_
    refine j_callVi1E (M' := M_X8_error) lk_X8_63 mv_X8_error ob_70 (by decide) (Nat.le_of_ble_eq_true rfl) dX8_fits_12 (q := 15) rfl (ct_err1) ?_
    refine j_ireti dX8_fits_15 rfl ?_
    exact ⟨rfl, rfl⟩
theorem ct_X8_fits_gone {g : GT} {σ : S_} {s : Nat} (hk4 : s < 4) (hb : σ 83 s = 0) : CT g 3 M_X8_fits [.ref 70, .int (nI s)] σ (EQ (.int (-1000000002)) (rfm σ 2)) := by
  refine ct_of [.ref 70, .int (nI s), .null, .null] pn_X8_fits rfl (Nat.le_of_ble_eq_true rfl) ?_
  refine j_aload_n dX8_fits_0 (q := 1) rfl rfl ?_
  refine j_iload_n dX8_fits_1 (q := 2) rfl rfl ?_
  refine j_callVi1E (M' := M_X8_lacks) lk_X8_214 mv_X8_lacks ob_70 (by decide) (Nat.le_of_ble_eq_true rfl) dX8_fits_2 (q := 5) rfl (ct_X8_lacks_g hk4 hb) ?_
  refine j_istore_n_4_2 dX8_fits_5 (q := 6) rfl rfl rfl ?_
  refine j_iload_n dX8_fits_6 (q := 7) rfl rfl ?_
  refine j_if_eq dX8_fits_7 (t := 16) (by decide) (q := 10) rfl (fun c_7 => ?_) (fun c_7 => ?_)
  · skip
    exact absurd c_7 (by decide)
  · skip
    refine j_aload_n dX8_fits_10 (q := 11) rfl rfl ?_
    refine j_iload_n dX8_fits_11 (q := 12) rfl rfl ?_
    refine j_callVi1E (M' := M_X8_error) lk_X8_63 mv_X8_error ob_70 (by decide) (Nat.le_of_ble_eq_true rfl) dX8_fits_12 (q := 15) rfl (ct_err2) ?_
    refine j_ireti dX8_fits_15 rfl ?_
    exact ⟨rfl, rfl⟩
theorem TM.fit {σ σ0 : S_} {t : Nat → Int32} {nf k s sz : Nat} (h : TM σ σ0 t nf k) : (decide (sz ≤ nf) && told (dry4 (σ 71)) (fun j => σ 85 (24 * s + j)) sz 0) = fitB t nf (fun j => σ0 85 (24 * s + j)) sz k := by
  unfold fitB
  rw [h.1, h.2.2 85 (by decide) (by decide) (by decide) (by decide)]
theorem fi_loop {g : GT} {t : Nat → Int32} {nf : Nat} {σ0 : S_} (hB : BD t) (hn : t 5 = nI nf) (h7 : nf ≤ 7) (hs : σ0 71 = t) {s sz : Nat} (hk4 : s < 4) (hsz : σ0 84 s = nI sz) (h24 : sz ≤ 24) : ∀ (k i : Nat) (σ : S_), i + k = 73 → TM σ σ0 t nf i → J g 5 M_X8_fits (fun r τ => (srch (fitB t nf (fun j => σ0 85 (24 * s + j)) sz) k i = 73 ∧ r = .int (-1000000002) ∧ ∃ τ0, τ = rfm τ0 2 ∧ ∀ x, x ≠ 73 → x ≠ 76 → x ≠ 77 → τ0 x = σ0 x) ∨ (srch (fitB t nf (fun j => σ0 85 (24 * s + j)) sz) k i < 73 ∧ r = .int (nI (srch (fitB t nf (fun j => σ0 85 (24 * s + j)) sz) k i)) ∧ ∀ x, x ≠ 73 → x ≠ 76 → x ≠ 77 → τ x = σ0 x)) 22 [.ref 70, .int (nI s), .int 0, .int (nI i)] [] σ := by
  intro k
  induction k with
  | zero =>
    intro i σ hik hM
    refine j_iload_n dX8_fits_22 (q := 23) rfl rfl ?_
    refine j_bipush (v := 72) dX8_fits_23 (q := 25) rfl (by decide) ?_
    refine j_icmp_gtN (b := 72) (by omega) (by omega) dX8_fits_25 (t := 46) (by decide) (q := 28) rfl (fun c_25 => ?_) (fun c_25 => ?_)
    · skip
      have hb : srch (fitB t nf (fun j => σ0 85 (24 * s + j)) sz) 0 i = i := rfl
      refine j_aload_n dX8_fits_46 (q := 47) rfl rfl ?_
      refine j_callVv0 (M' := M_X8_layBack) lk_X8_199 mv_X8_layBack ob_70 (by decide) (Nat.le_of_ble_eq_true rfl) dX8_fits_47 (q := 50) rfl (ct_X8_layBack) ?_
      intro τ2 hz
      obtain ⟨-, b1, b2, b3⟩ := hz
      refine j_iload_n dX8_fits_50 (q := 51) rfl rfl ?_
      refine j_bipush (v := 72) dX8_fits_51 (q := 53) rfl (by decide) ?_
      refine j_icmp_leN (b := 72) (by omega) (by omega) dX8_fits_53 (t := 64) (by decide) (q := 56) rfl (fun c_53 => ?_) (fun c_53 => ?_)
      · skip
        omega
      · skip
        refine j_aload_n dX8_fits_56 (q := 57) rfl rfl ?_
        refine j_iconst (v := 2) dX8_fits_57 (q := 58) rfl (by decide) ?_
        refine j_callVi1E (M' := M_X8_error) lk_X8_63 mv_X8_error ob_70 (by decide) (Nat.le_of_ble_eq_true rfl) dX8_fits_58 (q := 61) rfl (ct_err2) ?_
        refine j_goto (q := 65) dX8_fits_61 (by decide) ?_
        refine j_ireti dX8_fits_65 rfl ?_
        exact Or.inl ⟨by rw [hb]; omega, rfl, _, rfl, hM.back h7 hs b1 b2 b3⟩
    · skip
      omega
  | succ k ih =>
    intro i σ hik hM
    refine j_iload_n dX8_fits_22 (q := 23) rfl rfl ?_
    refine j_bipush (v := 72) dX8_fits_23 (q := 25) rfl (by decide) ?_
    refine j_icmp_gtN (b := 72) (by omega) (by omega) dX8_fits_25 (t := 46) (by decide) (q := 28) rfl (fun c_25 => ?_) (fun c_25 => ?_)
    · skip
      omega
    · skip
      refine j_aload_n dX8_fits_28 (q := 29) rfl rfl ?_
      refine j_iload_n dX8_fits_29 (q := 30) rfl rfl ?_
      refine j_callVi1E (M' := M_X8_areDrySo) lk_X8_217 mv_X8_areDrySo ob_70 (by decide) (Nat.le_of_ble_eq_true rfl) dX8_fits_30 (q := 33) rfl (ct_X8_areDrySo hk4 ((congrFun (hM.2.2 84 (by decide) (by decide) (by decide) (by decide)) s).trans hsz) h24 (hM.n5 h7 hn) h7) ?_
      refine j_ifneB dX8_fits_33 (t := 46) (by decide) (q := 36) rfl (fun c_33 => ?_) (fun c_33 => ?_)
      · skip
        have hb : srch (fitB t nf (fun j => σ0 85 (24 * s + j)) sz) (k + 1) i = i := if_pos (by rw [← hM.fit]; exact c_33)
        refine j_aload_n dX8_fits_46 (q := 47) rfl rfl ?_
        refine j_callVv0 (M' := M_X8_layBack) lk_X8_199 mv_X8_layBack ob_70 (by decide) (Nat.le_of_ble_eq_true rfl) dX8_fits_47 (q := 50) rfl (ct_X8_layBack) ?_
        intro τ2 hz
        obtain ⟨-, b1, b2, b3⟩ := hz
        refine j_iload_n dX8_fits_50 (q := 51) rfl rfl ?_
        refine j_bipush (v := 72) dX8_fits_51 (q := 53) rfl (by decide) ?_
        refine j_icmp_leN (b := 72) (by omega) (by omega) dX8_fits_53 (t := 64) (by decide) (q := 56) rfl (fun c_53 => ?_) (fun c_53 => ?_)
        · skip
          refine j_iload_n dX8_fits_64 (q := 65) rfl rfl ?_
          refine j_ireti dX8_fits_65 rfl ?_
          exact Or.inr ⟨by rw [hb]; omega, by rw [hb], hM.back h7 hs b1 b2 b3⟩
        · skip
          omega
      · skip
        rw [show srch (fitB t nf (fun j => σ0 85 (24 * s + j)) sz) (k + 1) i = srch (fitB t nf (fun j => σ0 85 (24 * s + j)) sz) k (i + 1) from if_neg (by rw [← hM.fit]; exact c_33)]
        refine j_aload_n dX8_fits_36 (q := 37) rfl rfl ?_
        refine j_callVv0 (M' := M_X8_anHour) lk_X8_187 mv_X8_anHour ob_70 (by decide) (Nat.le_of_ble_eq_true rfl) dX8_fits_37 (q := 40) rfl (ct_X8_anHour (by rw [hM.1]; exact BD_hoursN hB h7 i) (hM.n5 h7 hn) h7) ?_
        intro τ1 hz
        obtain ⟨-, g1, g2⟩ := hz
        have hM1 := hM.next g1 g2
        refine j_iincN_4_3 dX8_fits_40 (q := 43) rfl rfl rfl ?_
        refine j_goto (q := 22) dX8_fits_43 (by decide) ?_
        exact ih (i + 1) τ1 (by omega) hM1
theorem ct_X8_fits_ok {g : GT} {σ : S_} {t : Nat → Int32} {nf : Nat} (hB : BD t) (hn : t 5 = nI nf) (h7 : nf ≤ 7) (hs : σ 71 = t) {s sz : Nat} (hk4 : s < 4) (hsz : σ 84 s = nI sz) (h24 : sz ≤ 24) (hb0 : ¬ σ 83 s = 0) : CT g 5 M_X8_fits [.ref 70, .int (nI s)] σ ((fun r τ => (srch (fitB t nf (fun j => σ 85 (24 * s + j)) sz) 73 0 = 73 ∧ r = .int (-1000000002) ∧ ∃ τ0, τ = rfm τ0 2 ∧ ∀ x, x ≠ 73 → x ≠ 76 → x ≠ 77 → τ0 x = σ x) ∨ (srch (fitB t nf (fun j => σ 85 (24 * s + j)) sz) 73 0 < 73 ∧ r = .int (nI (srch (fitB t nf (fun j => σ 85 (24 * s + j)) sz) 73 0)) ∧ ∀ x, x ≠ 73 → x ≠ 76 → x ≠ 77 → τ x = σ x))) := by
  refine ct_of [.ref 70, .int (nI s), .null, .null] pn_X8_fits rfl (Nat.le_of_ble_eq_true rfl) ?_
  refine j_aload_n dX8_fits_0 (q := 1) rfl rfl ?_
  refine j_iload_n dX8_fits_1 (q := 2) rfl rfl ?_
  refine j_callVi1E (M' := M_X8_lacks) lk_X8_214 mv_X8_lacks ob_70 (by decide) (Nat.le_of_ble_eq_true rfl) dX8_fits_2 (q := 5) rfl (ct_X8_lacks_o hk4 hb0) ?_
  refine j_istore_n_4_2 dX8_fits_5 (q := 6) rfl rfl rfl ?_
  refine j_iload_n dX8_fits_6 (q := 7) rfl rfl ?_
  refine j_if_eq dX8_fits_7 (t := 16) (by decide) (q := 10) rfl (fun c_7 => ?_) (fun c_7 => ?_)
  · skip
    refine j_aload_n dX8_fits_16 (q := 17) rfl rfl ?_
    refine j_callVv0 (M' := M_X8_layDown) lk_X8_196 mv_X8_layDown ob_70 (by decide) (Nat.le_of_ble_eq_true rfl) dX8_fits_17 (q := 20) rfl (ct_X8_layDown) ?_
    intro τ0 hz
    obtain ⟨-, g1, g2, g3⟩ := hz
    have hM : TM τ0 σ t nf 0 := ⟨by rw [g3 71 (by decide)]; exact hs, fun j hj => by rw [g1 j hj, hs], fun x a b _ _ => g3 x b⟩
    refine j_iconst (v := 0) dX8_fits_20 (q := 21) rfl (by decide) ?_
    refine j_istore_n_4_3 dX8_fits_21 (q := 22) rfl rfl rfl ?_
    exact fi_loop (σ0 := σ) hB hn h7 hs hk4 hsz h24 73 0 τ0 rfl hM
  · skip
    exact absurd c_7 (by decide)
