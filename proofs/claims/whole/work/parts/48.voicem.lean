def vT0 (f : Nat → Int32) : VT := (0, f, 0)
theorem ct_X5_answerOf {g : GT} {σ : S_} {k K v : Nat} {m x : Int32} (hk : k < 7) (hK : K < 7) (hv : v < 4) (e1 : σ (16 + k) 1 = m) (e0 : σ (16 + k) 0 = nI K) : CT g 67 M_X5_answerOf [.ref 60, .int (nI k), .ref (16 + k), .int (nI v), .int x] σ (VZ K k m σ (vS K k m 21 v K x (vT0 (σ 61)))) := by
  refine ct_of [.ref 60, .int (nI k), .ref (16 + k), .int (nI v), .int x] pn_X5_answerOf rfl (Nat.le_of_ble_eq_true rfl) ?_
  refine j_aload_n dX5_answerOf_0 (q := 1) rfl rfl ?_
  refine j_iload_n dX5_answerOf_1 (q := 2) rfl rfl ?_
  refine j_putI fs_X5_15 rfl rfl fp_5_3 dX5_answerOf_2 (q := 5) rfl ?_
  refine j_aload_n dX5_answerOf_5 (q := 6) rfl rfl ?_
  refine j_aload_n dX5_answerOf_6 (q := 7) rfl rfl ?_
  refine j_getIV fs_X5_19 (tC_farm hk) rfl ((up_nc (by omega)).trans e1) dX5_answerOf_7 (q := 10) rfl ?_
  refine j_putI fs_X5_24 rfl rfl fp_5_4 dX5_answerOf_10 (q := 13) rfl ?_
  refine j_aload_n dX5_answerOf_13 (q := 14) rfl rfl ?_
  refine j_aload_n dX5_answerOf_14 (q := 15) rfl rfl ?_
  refine j_getIV fs_X5_25 (tC_farm hk) rfl ((up_nc (by omega)).trans ((up_nc (by omega)).trans e0)) dX5_answerOf_15 (q := 18) rfl ?_
  refine j_putI fs_X5_28 rfl rfl fp_5_5 dX5_answerOf_18 (q := 21) rfl ?_
  refine j_aload_n dX5_answerOf_21 (q := 22) rfl rfl ?_
  refine j_iconst (v := 0) dX5_answerOf_22 (q := 23) rfl (by decide) ?_
  refine j_putI fs_X5_29 rfl rfl fp_5_1 dX5_answerOf_23 (q := 26) rfl ?_
  refine j_aload_n dX5_answerOf_26 (q := 27) rfl rfl ?_
  refine j_iconst (v := 0) dX5_answerOf_27 (q := 28) rfl (by decide) ?_
  refine j_putZ fs_X5_32 rfl rfl fp_5_2 (by decide) dX5_answerOf_28 (q := 31) rfl ?_
  refine j_aload_n dX5_answerOf_31 (q := 32) rfl rfl ?_
  refine j_aload_n dX5_answerOf_32 (q := 33) rfl rfl ?_
  refine j_getIV fs_X5_28 rfl rfl ((up_nk (by decide)).trans ((up_nk (by decide)).trans up_at)) dX5_answerOf_33 (q := 36) rfl ?_
  refine j_iload_n dX5_answerOf_36 (q := 37) rfl rfl ?_
  refine j_iload dX5_answerOf_37 (q := 39) rfl rfl ?_
  refine j_iconst (v := 0) dX5_answerOf_39 (q := 40) rfl (by decide) ?_
  refine j_callVi4 (M' := M_X5_spoken) lk_X5_36 mv_X5_spoken ob_60 (by decide) (Nat.le_of_ble_eq_true rfl) dX5_answerOf_40 (q := 43) rfl (sp_all hK 21 0 rfl K v x (vT0 (σ 61)) (up (up (up (up (up σ 60 3 (nI k)) 60 4 m) 60 5 (nI K)) 60 1 0) 60 2 0) hK hv ⟨(up_nk (by decide)).trans up_at, Nat.zero_le _, up_at, fun j _ => (up_nc (by decide)).trans ((up_nc (by decide)).trans ((up_nc (by decide)).trans ((up_nc (by decide)).trans (up_nc (by decide))))), (up_nk (by decide)).trans ((up_nk (by decide)).trans ((up_nk (by decide)).trans ((up_nk (by decide)).trans up_at))), (up_nk (by decide)).trans ((up_nk (by decide)).trans ((up_nk (by decide)).trans up_at)), (up_nk (by decide)).trans ((up_nk (by decide)).trans up_at)⟩) ?_
  intro x1 τ1 hz
  obtain ⟨z1, hV1, hF1⟩ := hz
  cases z1
  refine j_ireti dX5_answerOf_43 rfl ?_
  exact ⟨rfl, hV1, fun y y1 y2 => (hF1 y y1 y2).trans ((up_row y1).trans ((up_row y1).trans ((up_row y1).trans ((up_row y1).trans (up_row y1)))))⟩
theorem ct_X7_voice_no {g : GT} {σ : S_} {f v x : Int32} (h : ¬ ((0 ≤ f ∧ f ≤ σ 8 1 - 1) ∧ (0 ≤ v ∧ v ≤ 3))) : CT g 68 M_X7_voice [.ref 0, .int f, .int v, .int x] σ (EQ (.int (-1000000001)) (rfz σ 1)) := by
  refine ct_of [.ref 0, .int f, .int v, .int x, .null] pn_X7_voice rfl (Nat.le_of_ble_eq_true rfl) ?_
  refine j_aload_n dX7_voice_0 (q := 1) rfl rfl ?_
  refine j_iload_n dX7_voice_1 (q := 2) rfl rfl ?_
  refine j_callVi1E (M' := M_X7_isFarm) lk_X7_79 mv_X7_isFarm ob_0 (by decide) (Nat.le_of_ble_eq_true rfl) dX7_voice_2 (q := 5) rfl (ct_X7_isFarm) ?_
  refine j_ifeqB dX7_voice_5 (t := 17) (by decide) (q := 8) rfl (fun c_5 => ?_) (fun c_5 => ?_)
  · skip
    refine j_iload_n dX7_voice_8 (q := 9) rfl rfl ?_
    refine j_iconst (v := 0) dX7_voice_9 (q := 10) rfl (by decide) ?_
    refine j_iconst (v := 3) dX7_voice_10 (q := 11) rfl (by decide) ?_
    refine j_callSi3E (M' := M_X7_within) lk_X7_57 ms_X7_within (by decide) (Nat.le_of_ble_eq_true rfl) dX7_voice_11 (q := 14) rfl (ct_X7_within) ?_
    refine j_ifneB dX7_voice_14 (t := 23) (by decide) (q := 17) rfl (fun c_14 => ?_) (fun c_14 => ?_)
    · skip
      exact absurd ⟨c_5, c_14⟩ h
    · skip
      refine j_aload_n dX7_voice_17 (q := 18) rfl rfl ?_
      refine j_iconst (v := 1) dX7_voice_18 (q := 19) rfl (by decide) ?_
      refine j_callVi1E (M' := M_X7_refuse) lk_X7_61 mv_X7_refuse ob_0 (by decide) (Nat.le_of_ble_eq_true rfl) dX7_voice_19 (q := 22) rfl (ct_ref1) ?_
      refine j_ireti dX7_voice_22 rfl ?_
      exact ⟨rfl, rfl⟩
  · skip
    refine j_aload_n dX7_voice_17 (q := 18) rfl rfl ?_
    refine j_iconst (v := 1) dX7_voice_18 (q := 19) rfl (by decide) ?_
    refine j_callVi1E (M' := M_X7_refuse) lk_X7_61 mv_X7_refuse ob_0 (by decide) (Nat.le_of_ble_eq_true rfl) dX7_voice_19 (q := 22) rfl (ct_ref1) ?_
    refine j_ireti dX7_voice_22 rfl ?_
    exact ⟨rfl, rfl⟩
theorem ct_X7_voice_ok {g : GT} {σ : S_} {k nf K v : Nat} {m x : Int32} (hn : k < nf) (h7 : nf ≤ 7) (e : σ 8 1 = nI nf) (hK : K < 7) (hv : v < 4) (e1 : σ (16 + k) 1 = m) (e0 : σ (16 + k) 0 = nI K) (hp : (vS K k m 21 v K x (vT0 (σ 61))).2.2.2 = 0) : CT g 68 M_X7_voice [.ref 0, .int (nI k), .int (nI v), .int x] σ (VZ K k m σ (vS K k m 21 v K x (vT0 (σ 61)))) := by
  refine ct_of [.ref 0, .int (nI k), .int (nI v), .int x, .null] pn_X7_voice rfl (Nat.le_of_ble_eq_true rfl) ?_
  refine j_aload_n dX7_voice_0 (q := 1) rfl rfl ?_
  refine j_iload_n dX7_voice_1 (q := 2) rfl rfl ?_
  refine j_callVi1E (M' := M_X7_isFarm) lk_X7_79 mv_X7_isFarm ob_0 (by decide) (Nat.le_of_ble_eq_true rfl) dX7_voice_2 (q := 5) rfl (ct_X7_isFarm) ?_
  refine j_ifeqB dX7_voice_5 (t := 17) (by decide) (q := 8) rfl (fun c_5 => ?_) (fun c_5 => ?_)
  · skip
    refine j_iload_n dX7_voice_8 (q := 9) rfl rfl ?_
    refine j_iconst (v := 0) dX7_voice_9 (q := 10) rfl (by decide) ?_
    refine j_iconst (v := 3) dX7_voice_10 (q := 11) rfl (by decide) ?_
    refine j_callSi3E (M' := M_X7_within) lk_X7_57 ms_X7_within (by decide) (Nat.le_of_ble_eq_true rfl) dX7_voice_11 (q := 14) rfl (ct_X7_within) ?_
    refine j_ifneB dX7_voice_14 (t := 23) (by decide) (q := 17) rfl (fun c_14 => ?_) (fun c_14 => ?_)
    · skip
      refine j_aload_n dX7_voice_23 (q := 24) rfl rfl ?_
      refine j_getR (r := 60) fs_X7_38 rfl rfl rfl dX7_voice_24 (q := 27) rfl ?_
      refine j_iload_n dX7_voice_27 (q := 28) rfl rfl ?_
      refine j_aload_n dX7_voice_28 (q := 29) rfl rfl ?_
      refine j_getR (r := 8) fs_X7_10 rfl rfl rfl dX7_voice_29 (q := 32) rfl ?_
      refine j_getR (r := 9) fs_X7_69 rfl rfl rfl dX7_voice_32 (q := 35) rfl ?_
      refine j_iload_n dX7_voice_35 (q := 36) rfl rfl ?_
      refine j_aaldN rfl (by omega) (rf_farm (by omega)) dX7_voice_36 (q := 37) rfl ?_
      refine j_iload_n dX7_voice_37 (q := 38) rfl rfl ?_
      refine j_iload_n dX7_voice_38 (q := 39) rfl rfl ?_
      refine j_callVi4 (M' := M_X5_answerOf) lk_X7_252 mv_X5_answerOf ob_60 (by decide) (Nat.le_of_ble_eq_true rfl) dX7_voice_39 (q := 42) rfl (ct_X5_answerOf (by omega) hK hv e1 e0) ?_
      intro x1 τ1 hz
      obtain ⟨z1, hV1, hF1⟩ := hz
      cases z1
      refine j_istore_5_4 dX7_voice_42 (q := 44) rfl rfl rfl ?_
      refine j_aload_n dX7_voice_44 (q := 45) rfl rfl ?_
      refine j_getR (r := 60) fs_X7_38 rfl rfl rfl dX7_voice_45 (q := 48) rfl ?_
      refine j_getIV fs_X7_256 rfl rfl hV1.2.2.1 dX7_voice_48 (q := 51) rfl ?_
      refine j_if_eq dX7_voice_51 (t := 63) (by decide) (q := 54) rfl (fun c_51 => ?_) (fun c_51 => ?_)
      · skip
        refine j_iload dX7_voice_63 (q := 65) rfl rfl ?_
        refine j_ireti dX7_voice_65 rfl ?_
        exact ⟨rfl, hV1, hF1⟩
      · skip
        exact absurd hp c_51
    · skip
      exact absurd (inK (b := 3) (by omega) (by decide)) c_14
  · skip
    exact absurd (inF hn h7 e) c_5
theorem ct_X7_voice_par {g : GT} {σ : S_} {k nf K v : Nat} {m x : Int32} (hn : k < nf) (h7 : nf ≤ 7) (e : σ 8 1 = nI nf) (hK : K < 7) (hv : v < 4) (e1 : σ (16 + k) 1 = m) (e0 : σ (16 + k) 0 = nI K) (hp : ¬ (vS K k m 21 v K x (vT0 (σ 61))).2.2.2 = 0) : CT g 68 M_X7_voice [.ref 0, .int (nI k), .int (nI v), .int x] σ (fun r τ => r = .int (-1000000006) ∧ ∃ τ1, VI K k m τ1 (vS K k m 21 v K x (vT0 (σ 61))).2 ∧ (∀ y, y ≠ 60 → y ≠ 61 → τ1 y = σ y) ∧ τ = rfz τ1 6) := by
  refine ct_of [.ref 0, .int (nI k), .int (nI v), .int x, .null] pn_X7_voice rfl (Nat.le_of_ble_eq_true rfl) ?_
  refine j_aload_n dX7_voice_0 (q := 1) rfl rfl ?_
  refine j_iload_n dX7_voice_1 (q := 2) rfl rfl ?_
  refine j_callVi1E (M' := M_X7_isFarm) lk_X7_79 mv_X7_isFarm ob_0 (by decide) (Nat.le_of_ble_eq_true rfl) dX7_voice_2 (q := 5) rfl (ct_X7_isFarm) ?_
  refine j_ifeqB dX7_voice_5 (t := 17) (by decide) (q := 8) rfl (fun c_5 => ?_) (fun c_5 => ?_)
  · skip
    refine j_iload_n dX7_voice_8 (q := 9) rfl rfl ?_
    refine j_iconst (v := 0) dX7_voice_9 (q := 10) rfl (by decide) ?_
    refine j_iconst (v := 3) dX7_voice_10 (q := 11) rfl (by decide) ?_
    refine j_callSi3E (M' := M_X7_within) lk_X7_57 ms_X7_within (by decide) (Nat.le_of_ble_eq_true rfl) dX7_voice_11 (q := 14) rfl (ct_X7_within) ?_
    refine j_ifneB dX7_voice_14 (t := 23) (by decide) (q := 17) rfl (fun c_14 => ?_) (fun c_14 => ?_)
    · skip
      refine j_aload_n dX7_voice_23 (q := 24) rfl rfl ?_
      refine j_getR (r := 60) fs_X7_38 rfl rfl rfl dX7_voice_24 (q := 27) rfl ?_
      refine j_iload_n dX7_voice_27 (q := 28) rfl rfl ?_
      refine j_aload_n dX7_voice_28 (q := 29) rfl rfl ?_
      refine j_getR (r := 8) fs_X7_10 rfl rfl rfl dX7_voice_29 (q := 32) rfl ?_
      refine j_getR (r := 9) fs_X7_69 rfl rfl rfl dX7_voice_32 (q := 35) rfl ?_
      refine j_iload_n dX7_voice_35 (q := 36) rfl rfl ?_
      refine j_aaldN rfl (by omega) (rf_farm (by omega)) dX7_voice_36 (q := 37) rfl ?_
      refine j_iload_n dX7_voice_37 (q := 38) rfl rfl ?_
      refine j_iload_n dX7_voice_38 (q := 39) rfl rfl ?_
      refine j_callVi4 (M' := M_X5_answerOf) lk_X7_252 mv_X5_answerOf ob_60 (by decide) (Nat.le_of_ble_eq_true rfl) dX7_voice_39 (q := 42) rfl (ct_X5_answerOf (by omega) hK hv e1 e0) ?_
      intro x1 τ1 hz
      obtain ⟨z1, hV1, hF1⟩ := hz
      cases z1
      refine j_istore_5_4 dX7_voice_42 (q := 44) rfl rfl rfl ?_
      refine j_aload_n dX7_voice_44 (q := 45) rfl rfl ?_
      refine j_getR (r := 60) fs_X7_38 rfl rfl rfl dX7_voice_45 (q := 48) rfl ?_
      refine j_getIV fs_X7_256 rfl rfl hV1.2.2.1 dX7_voice_48 (q := 51) rfl ?_
      refine j_if_eq dX7_voice_51 (t := 63) (by decide) (q := 54) rfl (fun c_51 => ?_) (fun c_51 => ?_)
      · skip
        exact absurd c_51 hp
      · skip
        refine j_aload_n dX7_voice_54 (q := 55) rfl rfl ?_
        refine j_bipush (v := 6) dX7_voice_55 (q := 57) rfl (by decide) ?_
        refine j_callVi1E (M' := M_X7_refuse) lk_X7_61 mv_X7_refuse ob_0 (by decide) (Nat.le_of_ble_eq_true rfl) dX7_voice_57 (q := 60) rfl (ct_ref6) ?_
        refine j_goto (q := 65) dX7_voice_60 (by decide) ?_
        refine j_ireti dX7_voice_65 rfl ?_
        exact ⟨rfl, τ1, hV1, hF1, rfl⟩
    · skip
      exact absurd (inK (b := 3) (by omega) (by decide)) c_14
  · skip
    exact absurd (inF hn h7 e) c_5
def VJ (K k : Nat) (m : Int32) (σ : S_) (T : VT) : Prop := σ 70 17 = nI T.1 ∧ T.1 ≤ 30 ∧ σ 70 20 = T.2.2 ∧ (∀ j, j < 30 → σ 82 j = T.2.1 j) ∧ σ 70 19 = nI k ∧ σ 71 (10 + 6 * k + 1) = m ∧ σ 71 (10 + 6 * k) = nI K
def VF (σ τ : S_) : Prop := (∀ y, y ≠ 70 → y ≠ 82 → τ y = σ y) ∧ τ 70 3 = σ 70 3
theorem VF.rf {σ : S_} : VF σ σ := ⟨fun _ _ _ => rfl, rfl⟩
theorem VF.tr {σ τ υ : S_} (h : VF τ υ) (h' : VF σ τ) : VF σ υ := ⟨fun y a b => (h.1 y a b).trans (h'.1 y a b), h.2.trans h'.2⟩
def VY (K k : Nat) (m : Int32) (σ : S_) (q : Int32 × VT) : Value → S_ → Prop := fun r τ => r = .int q.1 ∧ VJ K k m τ q.2 ∧ VF σ τ
theorem VJ_st {K k b : Nat} {m : Int32} {σ : S_} {T : VT} (h : VJ K k m σ T) (hT : T.1 < 30) : VJ K k m (up (up σ 82 T.1 (nI b)) 70 17 (nI (T.1 + 1))) (stT b T) := by
  obtain ⟨h1, h2, h3, h4, h5, h6, h7⟩ := h
  have e : ∀ j, j ≠ 17 → up (up σ 82 T.1 (nI b)) 70 17 (nI (T.1 + 1)) 70 j = σ 70 j := fun j hj => (up_nk hj).trans (up_nc (by decide))
  have e71 : ∀ j, up (up σ 82 T.1 (nI b)) 70 17 (nI (T.1 + 1)) 71 j = σ 71 j := fun j => (up_nc (by decide)).trans (up_nc (by decide))
  unfold stT
  rw [if_pos hT]
  refine ⟨up_at, hT, (e 20 (by decide)).trans h3, fun j hj => ?_, (e 19 (by decide)).trans h5, (e71 _).trans h6, (e71 _).trans h7⟩
  rw [up_nc (by decide)]
  show _ = upd T.2.1 T.1 (nI b) j
  by_cases q : j = T.1
  · rw [q, up_at, upd_at]
  · rw [up_nk q, upd_ne q]; exact h4 j hj
theorem VJ_st0 {K k b : Nat} {m : Int32} {σ : S_} {T : VT} (h : VJ K k m σ T) (hT : 30 ≤ T.1) : VJ K k m σ (stT b T) := by
  unfold stT
  rw [if_neg (by omega)]
  exact h
theorem stT_p {b : Nat} {T : VT} : (stT b T).2.2 = T.2.2 := by
  unfold stT
  split <;> rfl
theorem ct_X8_starts {g : GT} {σ : S_} {b : Nat} {K k : Nat} {m : Int32} {T : VT} (hk : k < 7) (hV : VJ K k m σ T) : CT g 0 M_X8_starts [.ref 70, .int (nI b)] σ (fun r τ => r = .null ∧ VJ K k m τ (stT b T) ∧ VF σ τ) := by
  obtain ⟨v1, v2, v3, v4, v5, v6, v7⟩ := id hV
  refine ct_of [.ref 70, .int (nI b)] pn_X8_starts rfl (Nat.le_of_ble_eq_true rfl) ?_
  refine j_aload_n dX8_starts_0 (q := 1) rfl rfl ?_
  refine j_getIV fs_X8_220 rfl rfl v1 dX8_starts_1 (q := 4) rfl ?_
  refine j_bipush (v := 30) dX8_starts_4 (q := 6) rfl (by decide) ?_
  refine j_icmp_geN (b := 30) (by omega) (by omega) dX8_starts_6 (t := 29) (by decide) (q := 9) rfl (fun c_6 => ?_) (fun c_6 => ?_)
  · skip
    refine j_vret dX8_starts_29 rfl ?_
    exact ⟨rfl, VJ_st0 hV c_6, VF.rf⟩
  · skip
    refine j_aload_n dX8_starts_9 (q := 10) rfl rfl ?_
    refine j_getR (r := 82) fs_X8_43 rfl rfl rfl dX8_starts_10 (q := 13) rfl ?_
    refine j_aload_n dX8_starts_13 (q := 14) rfl rfl ?_
    refine j_getIV fs_X8_220 rfl rfl v1 dX8_starts_14 (q := 17) rfl ?_
    refine j_iload_n dX8_starts_17 (q := 18) rfl rfl ?_
    refine j_iastN rfl (by omega) dX8_starts_18 (q := 19) rfl ?_
    refine j_aload_n dX8_starts_19 (q := 20) rfl rfl ?_
    refine j_dup dX8_starts_20 (q := 21) rfl rfl ?_
    refine j_getIV fs_X8_220 rfl rfl ((up_nc (by decide)).trans v1) dX8_starts_21 (q := 24) rfl ?_
    refine j_iconst (v := 1) dX8_starts_24 (q := 25) rfl (by decide) ?_
    refine j_iaddN (b := 1) dX8_starts_25 (q := 26) rfl ?_
    refine j_putI fs_X8_220 rfl rfl fp_8_17 dX8_starts_26 (q := 29) rfl ?_
    refine j_vret dX8_starts_29 rfl ?_
    exact ⟨rfl, VJ_st hV (by omega), ⟨fun y y1 y2 => (up_row y1).trans (up_row y2), (up_nk (by decide)).trans (up_nc (by decide))⟩⟩
theorem vS_at {K k n v a b c : Nat} {m x : Int32} {T : VT} (hb : bdN (owN v a) v = b) (hc : abN (owN v a) = c) : vS K k m (n + 1) v a x T = vB (vS K k m n) K k m b c x (stT b T) := by
  show vB (vS K k m n) K k m (bdN (owN v a) v) (abN (owN v a)) x (stT (bdN (owN v a) v) T) = _
  rw [hb, hc]
theorem vS_eq {K k n v a b : Nat} {m x : Int32} {T : VT} (h : owN v a = owN v b) : vS K k m (n + 1) v a x T = vS K k m (n + 1) v b x T := by
  show vB (vS K k m n) K k m (bdN (owN v a) v) (abN (owN v a)) x (stT (bdN (owN v a) v) T) = vB (vS K k m n) K k m (bdN (owN v b) v) (abN (owN v b)) x (stT (bdN (owN v b) v) T)
  rw [h]
theorem vB_10 {f : Nat → Nat → Int32 → VT → Int32 × VT} {K k ab : Nat} {m x : Int32} {T : VT} : vB f K k m 10 ab x T = (x + nI k, T) := rfl
theorem vB_11 {f : Nat → Nat → Int32 → VT → Int32 × VT} {K k ab : Nat} {m x : Int32} {T : VT} : vB f K k m 11 ab x T = ((f 0 K x T).1 * 2, (f 0 K x T).2) := rfl
theorem vB_12 {f : Nat → Nat → Int32 → VT → Int32 × VT} {K k ab : Nat} {m x : Int32} {T : VT} : vB f K k m 12 ab x T = ((f 1 K x T).1 - m, (f 1 K x T).2) := rfl
theorem vB_13 {f : Nat → Nat → Int32 → VT → Int32 × VT} {K k ab : Nat} {m x : Int32} {T : VT} : vB f K k m 13 ab x T = (if m - nI k = 0 then (0, (T.1, T.2.1, 1)) else (x / (m - nI k), T)) := rfl
theorem vB_20 {f : Nat → Nat → Int32 → VT → Int32 × VT} {K k ab : Nat} {m x : Int32} {T : VT} : vB f K k m 20 ab x T = ((f 0 ab x T).1 - 4, (f 0 ab x T).2) := rfl
theorem vB_21 {f : Nat → Nat → Int32 → VT → Int32 × VT} {K k ab : Nat} {m x : Int32} {T : VT} : vB f K k m 21 ab x T = (if (f 3 ab x T).2.2.2 = 0 then ((f 3 ab x T).1 + (f 1 K 1 (f 3 ab x T).2).1, (f 1 K 1 (f 3 ab x T).2).2) else (0, (f 3 ab x T).2)) := rfl
theorem vB_30 {f : Nat → Nat → Int32 → VT → Int32 × VT} {K k ab : Nat} {m x : Int32} {T : VT} : vB f K k m 30 ab x T = (0 - (f 1 ab x T).1, (f 1 ab x T).2) := rfl
theorem vB_40 {f : Nat → Nat → Int32 → VT → Int32 × VT} {K k ab : Nat} {m x : Int32} {T : VT} : vB f K k m 40 ab x T = (f 2 ab (x / 2) T) := rfl
theorem vB_50 {f : Nat → Nat → Int32 → VT → Int32 × VT} {K k ab : Nat} {m x : Int32} {T : VT} : vB f K k m 50 ab x T = ((f 0 ab x T).1 * 3, (f 0 ab x T).2) := rfl
theorem vB_51 {f : Nat → Nat → Int32 → VT → Int32 × VT} {K k ab : Nat} {m x : Int32} {T : VT} : vB f K k m 51 ab x T = ((f 2 ab x T).1 ^^^ nI k, (f 2 ab x T).2) := rfl
theorem vB_60 {f : Nat → Nat → Int32 → VT → Int32 × VT} {K k ab : Nat} {m x : Int32} {T : VT} : vB f K k m 60 ab x T = (f 1 ab (x + 1) T) := rfl
theorem vB_70 {f : Nat → Nat → Int32 → VT → Int32 × VT} {K k ab : Nat} {m x : Int32} {T : VT} : vB f K k m 70 ab x T = ((9 : Int32), T) := rfl
theorem vB_71 {f : Nat → Nat → Int32 → VT → Int32 × VT} {K k ab : Nat} {m x : Int32} {T : VT} : vB f K k m 71 ab x T = ((f 1 ab x T).1 + m, (f 1 ab x T).2) := rfl
theorem abN_cases : ∀ a, a < 7 → (a = 4 ∧ abN a = 1) ∨ (a ≠ 4 ∧ a = 5 ∧ abN a = 2) ∨ (a ≠ 4 ∧ a ≠ 5 ∧ abN a = 0) := by decide +kernel
theorem ct_X8_aboveN {g : GT} {σ : S_} {a : Nat} (ha : a < 7) : CT g 0 M_X8_above [.int (nI a)] σ (EQ (.int (nI (abN a))) σ) := by
  refine ct_of [.int (nI a)] pn_X8_above rfl (Nat.le_of_ble_eq_true rfl) ?_
  refine j_iload_n dX8_above_0 (q := 1) rfl rfl ?_
  refine j_iconst (v := 4) dX8_above_1 (q := 2) rfl (by decide) ?_
  refine j_icmp_neN (b := 4) (by omega) (by omega) dX8_above_2 (t := 9) (by decide) (q := 5) rfl (fun c_2 => ?_) (fun c_2 => ?_)
  · skip
    refine j_iload_n dX8_above_9 (q := 10) rfl rfl ?_
    refine j_iconst (v := 5) dX8_above_10 (q := 11) rfl (by decide) ?_
    refine j_icmp_neN (b := 5) (by omega) (by omega) dX8_above_11 (t := 18) (by decide) (q := 14) rfl (fun c_11 => ?_) (fun c_11 => ?_)
    · skip
      refine j_iconst (v := 0) dX8_above_18 (q := 19) rfl (by decide) ?_
      refine j_ireti dX8_above_19 rfl ?_
      rcases abN_cases a ha with ⟨h1, e⟩ | ⟨h0, h1, e⟩ | ⟨h0, h1, e⟩ <;> first | (exfalso; omega) | exact ⟨by rw [e]; rfl, rfl⟩
    · skip
      refine j_iconst (v := 2) dX8_above_14 (q := 15) rfl (by decide) ?_
      refine j_goto (q := 19) dX8_above_15 (by decide) ?_
      refine j_ireti dX8_above_19 rfl ?_
      rcases abN_cases a ha with ⟨h1, e⟩ | ⟨h0, h1, e⟩ | ⟨h0, h1, e⟩ <;> first | (exfalso; omega) | exact ⟨by rw [e]; rfl, rfl⟩
  · skip
    refine j_iconst (v := 1) dX8_above_5 (q := 6) rfl (by decide) ?_
    refine j_goto (q := 19) dX8_above_6 (by decide) ?_
    refine j_ireti dX8_above_19 rfl ?_
    rcases abN_cases a ha with ⟨h1, e⟩ | ⟨h0, h1, e⟩ | ⟨h0, h1, e⟩ <;> first | (exfalso; omega) | exact ⟨by rw [e]; rfl, rfl⟩
theorem ct_X8_kindNow {g : GT} {σ : S_} {K k : Nat} {m : Int32} {T : VT} (hk : k < 7) (hV : VJ K k m σ T) : CT g 1 M_X8_kindNow [.ref 70] σ (EQ (.int (nI K)) σ) := by
  obtain ⟨v1, v2, v3, v4, v5, v6, v7⟩ := id hV
  refine ct_of [.ref 70] pn_X8_kindNow rfl (Nat.le_of_ble_eq_true rfl) ?_
  refine j_aload_n dX8_kindNow_0 (q := 1) rfl rfl ?_
  refine j_aload_n dX8_kindNow_1 (q := 2) rfl rfl ?_
  refine j_getIV fs_X8_223 rfl rfl v5 dX8_kindNow_2 (q := 5) rfl ?_
  refine j_iconst (v := 0) dX8_kindNow_5 (q := 6) rfl (by decide) ?_
  refine j_callVi2E (M' := M_X8_its) lk_X8_123 mv_X8_its ob_70 (by decide) (Nat.le_of_ble_eq_true rfl) dX8_kindNow_6 (q := 9) rfl (ct_X8_its0 hk) ?_
  refine j_ireti dX8_kindNow_9 rfl ?_
  exact ⟨congrArg Value.int v7, rfl⟩
theorem ct_X8_mNow {g : GT} {σ : S_} {K k : Nat} {m : Int32} {T : VT} (hk : k < 7) (hV : VJ K k m σ T) : CT g 1 M_X8_mNow [.ref 70] σ (EQ (.int m) σ) := by
  obtain ⟨v1, v2, v3, v4, v5, v6, v7⟩ := id hV
  refine ct_of [.ref 70] pn_X8_mNow rfl (Nat.le_of_ble_eq_true rfl) ?_
  refine j_aload_n dX8_mNow_0 (q := 1) rfl rfl ?_
  refine j_aload_n dX8_mNow_1 (q := 2) rfl rfl ?_
  refine j_getIV fs_X8_223 rfl rfl v5 dX8_mNow_2 (q := 5) rfl ?_
  refine j_iconst (v := 1) dX8_mNow_5 (q := 6) rfl (by decide) ?_
  refine j_callVi2E (M' := M_X8_its) lk_X8_123 mv_X8_its ob_70 (by decide) (Nat.le_of_ble_eq_true rfl) dX8_mNow_6 (q := 9) rfl (ct_X8_its (k := 1) hk (by decide)) ?_
  refine j_ireti dX8_mNow_9 rfl ?_
  exact ⟨congrArg Value.int v6, rfl⟩
theorem ct_gu_0 {g : GT} {σ : S_} {d n : Nat} (hd : 1 ≤ d) {x : Int32} {K k : Nat} {m : Int32} {T : VT} (hK : K < 7) (hk : k < 7) (hV : VJ K k m σ T) : CT g d M_X8_gulpsAs [.ref 70, .int 0, .int x] σ (VY K k m σ (vS K k m (n + 1) 0 0 x T)) := by
  rw [show vS K k m (n + 1) 0 0 x T = (x + nI k, (stT 10 T)) from (vS_at (n := n + 0) (b := 10) (c := 0) (by decide) (by decide)).trans vB_10]
  obtain ⟨v1, v2, v3, v4, v5, v6, v7⟩ := id hV
  refine ct_of [.ref 70, .int 0, .int x] pn_X8_gulpsAs rfl (Nat.le_of_ble_eq_true rfl) ?_
  refine j_iload_n dX8_gulpsAs_0 (q := 1) rfl rfl ?_
  refine j_tsw_0_6 dX8_gulpsAs_1 (td := 102) (t0 := 44) (t1 := 57) (t2 := 102) (t3 := 102) (t4 := 75) (t5 := 102) (t6 := 93) (by decide) (by decide) (by decide) (by decide) (by decide) (by decide) (by decide) (by decide) (fun e_1 => ?_) (fun e_1 => ?_) (fun e_1 => ?_) (fun e_1 => ?_) (fun e_1 => ?_) (fun e_1 => ?_) (fun e_1 => ?_) (fun e_1_0 e_1_1 e_1_2 e_1_3 e_1_4 e_1_5 e_1_6 => ?_)
  · skip
    refine j_aload_n dX8_gulpsAs_44 (q := 45) rfl rfl ?_
    refine j_bipush (v := 10) dX8_gulpsAs_45 (q := 47) rfl (by decide) ?_
    refine j_callVv1 (M' := M_X8_starts) lk_X8_226 mv_X8_starts ob_70 (by omega) (Nat.le_of_ble_eq_true rfl) dX8_gulpsAs_47 (q := 50) rfl (ct_X8_starts (b := 10) hk hV) ?_
    intro τ1 hz
    obtain ⟨_, hV1, hF1⟩ := hz
    refine j_iload_n dX8_gulpsAs_50 (q := 51) rfl rfl ?_
    refine j_aload_n dX8_gulpsAs_51 (q := 52) rfl rfl ?_
    refine j_getIV fs_X8_223 rfl rfl hV1.2.2.2.2.1 dX8_gulpsAs_52 (q := 55) rfl ?_
    refine j_iadd dX8_gulpsAs_55 (q := 56) rfl ?_
    refine j_ireti dX8_gulpsAs_56 rfl ?_
    exact ⟨rfl, hV1, hF1⟩
  · skip
    exact absurd e_1 (by decide)
  · skip
    exact absurd e_1 (by decide)
  · skip
    exact absurd e_1 (by decide)
  · skip
    exact absurd e_1 (by decide)
  · skip
    exact absurd e_1 (by decide)
  · skip
    exact absurd e_1 (by decide)
  · skip
    exact absurd rfl e_1_0
theorem ct_gu_6 {g : GT} {σ : S_} {d n : Nat} (hd : 1 ≤ d) {x : Int32} {K k : Nat} {m : Int32} {T : VT} (hK : K < 7) (hk : k < 7) (hV : VJ K k m σ T) : CT g d M_X8_gulpsAs [.ref 70, .int 6, .int x] σ (VY K k m σ (vS K k m (n + 1) 0 6 x T)) := by
  rw [show vS K k m (n + 1) 0 6 x T = ((9 : Int32), (stT 70 T)) from (vS_at (n := n + 0) (b := 70) (c := 0) (by decide) (by decide)).trans vB_70]
  obtain ⟨v1, v2, v3, v4, v5, v6, v7⟩ := id hV
  refine ct_of [.ref 70, .int 6, .int x] pn_X8_gulpsAs rfl (Nat.le_of_ble_eq_true rfl) ?_
  refine j_iload_n dX8_gulpsAs_0 (q := 1) rfl rfl ?_
  refine j_tsw_0_6 dX8_gulpsAs_1 (td := 102) (t0 := 44) (t1 := 57) (t2 := 102) (t3 := 102) (t4 := 75) (t5 := 102) (t6 := 93) (by decide) (by decide) (by decide) (by decide) (by decide) (by decide) (by decide) (by decide) (fun e_1 => ?_) (fun e_1 => ?_) (fun e_1 => ?_) (fun e_1 => ?_) (fun e_1 => ?_) (fun e_1 => ?_) (fun e_1 => ?_) (fun e_1_0 e_1_1 e_1_2 e_1_3 e_1_4 e_1_5 e_1_6 => ?_)
  · skip
    exact absurd e_1 (by decide)
  · skip
    exact absurd e_1 (by decide)
  · skip
    exact absurd e_1 (by decide)
  · skip
    exact absurd e_1 (by decide)
  · skip
    exact absurd e_1 (by decide)
  · skip
    exact absurd e_1 (by decide)
  · skip
    refine j_aload_n dX8_gulpsAs_93 (q := 94) rfl rfl ?_
    refine j_bipush (v := 70) dX8_gulpsAs_94 (q := 96) rfl (by decide) ?_
    refine j_callVv1 (M' := M_X8_starts) lk_X8_226 mv_X8_starts ob_70 (by omega) (Nat.le_of_ble_eq_true rfl) dX8_gulpsAs_96 (q := 99) rfl (ct_X8_starts (b := 70) hk hV) ?_
    intro τ1 hz
    obtain ⟨_, hV1, hF1⟩ := hz
    refine j_bipush (v := 9) dX8_gulpsAs_99 (q := 101) rfl (by decide) ?_
    refine j_ireti dX8_gulpsAs_101 rfl ?_
    exact ⟨rfl, hV1, hF1⟩
  · skip
    exact absurd rfl e_1_6
theorem ct_gu_1 {g : GT} {σ : S_} {d n : Nat} (hd : 2 ≤ d) {x : Int32} {K k : Nat} {m : Int32} {T : VT} (hK : K < 7) (hk : k < 7) (hV : VJ K k m σ T) : CT g d M_X8_gulpsAs [.ref 70, .int 1, .int x] σ (VY K k m σ (vS K k m (n + 2) 0 1 x T)) := by
  rw [show vS K k m (n + 2) 0 1 x T = ((vS K k m (n + 1) 0 0 x (stT 20 T)).1 - 4, (vS K k m (n + 1) 0 0 x (stT 20 T)).2) from (vS_at (n := n + 1) (b := 20) (c := 0) (by decide) (by decide)).trans vB_20]
  generalize hA : vS K k m (n + 1) 0 0 x (stT 20 T) = A
  obtain ⟨v1, v2, v3, v4, v5, v6, v7⟩ := id hV
  refine ct_of [.ref 70, .int 1, .int x] pn_X8_gulpsAs rfl (Nat.le_of_ble_eq_true rfl) ?_
  refine j_iload_n dX8_gulpsAs_0 (q := 1) rfl rfl ?_
  refine j_tsw_0_6 dX8_gulpsAs_1 (td := 102) (t0 := 44) (t1 := 57) (t2 := 102) (t3 := 102) (t4 := 75) (t5 := 102) (t6 := 93) (by decide) (by decide) (by decide) (by decide) (by decide) (by decide) (by decide) (by decide) (fun e_1 => ?_) (fun e_1 => ?_) (fun e_1 => ?_) (fun e_1 => ?_) (fun e_1 => ?_) (fun e_1 => ?_) (fun e_1 => ?_) (fun e_1_0 e_1_1 e_1_2 e_1_3 e_1_4 e_1_5 e_1_6 => ?_)
  · skip
    exact absurd e_1 (by decide)
  · skip
    refine j_aload_n dX8_gulpsAs_57 (q := 58) rfl rfl ?_
    refine j_bipush (v := 20) dX8_gulpsAs_58 (q := 60) rfl (by decide) ?_
    refine j_callVv1 (M' := M_X8_starts) lk_X8_226 mv_X8_starts ob_70 (by omega) (Nat.le_of_ble_eq_true rfl) dX8_gulpsAs_60 (q := 63) rfl (ct_X8_starts (b := 20) hk hV) ?_
    intro τ1 hz
    obtain ⟨_, hV1, hF1⟩ := hz
    refine j_aload_n dX8_gulpsAs_63 (q := 64) rfl rfl ?_
    refine j_iconst (v := 1) dX8_gulpsAs_64 (q := 65) rfl (by decide) ?_
    refine j_callSi1E (M' := M_X8_above) lk_X8_172 ms_X8_above (by omega) (Nat.le_of_ble_eq_true rfl) dX8_gulpsAs_65 (q := 68) rfl (ct_X8_aboveN (a := 1) (by decide)) ?_
    refine j_iload_n dX8_gulpsAs_68 (q := 69) rfl rfl ?_
    refine j_callVi2 (M' := M_X8_gulpsAs) lk_X8_230 mv_X8_gulpsAs ob_70 (by omega) (Nat.le_of_ble_eq_true rfl) dX8_gulpsAs_69 (q := 72) rfl (ct_gu_0 (n := n) (d := 1) (by decide) hK hk hV1) ?_
    intro x2 τ2 hz
    rw [hA] at hz
    obtain ⟨z2, hV2, hF2⟩ := hz
    cases z2
    refine j_iconst (v := 4) dX8_gulpsAs_72 (q := 73) rfl (by decide) ?_
    refine j_isub dX8_gulpsAs_73 (q := 74) rfl ?_
    refine j_ireti dX8_gulpsAs_74 rfl ?_
    exact ⟨rfl, hV2, hF2.tr hF1⟩
  · skip
    exact absurd e_1 (by decide)
  · skip
    exact absurd e_1 (by decide)
  · skip
    exact absurd e_1 (by decide)
  · skip
    exact absurd e_1 (by decide)
  · skip
    exact absurd e_1 (by decide)
  · skip
    exact absurd rfl e_1_1
theorem ct_gu_4 {g : GT} {σ : S_} {d n : Nat} (hd : 3 ≤ d) {x : Int32} {K k : Nat} {m : Int32} {T : VT} (hK : K < 7) (hk : k < 7) (hV : VJ K k m σ T) : CT g d M_X8_gulpsAs [.ref 70, .int 4, .int x] σ (VY K k m σ (vS K k m (n + 3) 0 4 x T)) := by
  rw [show vS K k m (n + 3) 0 4 x T = ((vS K k m (n + 2) 0 1 x (stT 50 T)).1 * 3, (vS K k m (n + 2) 0 1 x (stT 50 T)).2) from (vS_at (n := n + 2) (b := 50) (c := 1) (by decide) (by decide)).trans vB_50]
  generalize hA : vS K k m (n + 2) 0 1 x (stT 50 T) = A
  obtain ⟨v1, v2, v3, v4, v5, v6, v7⟩ := id hV
  refine ct_of [.ref 70, .int 4, .int x] pn_X8_gulpsAs rfl (Nat.le_of_ble_eq_true rfl) ?_
  refine j_iload_n dX8_gulpsAs_0 (q := 1) rfl rfl ?_
  refine j_tsw_0_6 dX8_gulpsAs_1 (td := 102) (t0 := 44) (t1 := 57) (t2 := 102) (t3 := 102) (t4 := 75) (t5 := 102) (t6 := 93) (by decide) (by decide) (by decide) (by decide) (by decide) (by decide) (by decide) (by decide) (fun e_1 => ?_) (fun e_1 => ?_) (fun e_1 => ?_) (fun e_1 => ?_) (fun e_1 => ?_) (fun e_1 => ?_) (fun e_1 => ?_) (fun e_1_0 e_1_1 e_1_2 e_1_3 e_1_4 e_1_5 e_1_6 => ?_)
  · skip
    exact absurd e_1 (by decide)
  · skip
    exact absurd e_1 (by decide)
  · skip
    exact absurd e_1 (by decide)
  · skip
    exact absurd e_1 (by decide)
  · skip
    refine j_aload_n dX8_gulpsAs_75 (q := 76) rfl rfl ?_
    refine j_bipush (v := 50) dX8_gulpsAs_76 (q := 78) rfl (by decide) ?_
    refine j_callVv1 (M' := M_X8_starts) lk_X8_226 mv_X8_starts ob_70 (by omega) (Nat.le_of_ble_eq_true rfl) dX8_gulpsAs_78 (q := 81) rfl (ct_X8_starts (b := 50) hk hV) ?_
    intro τ1 hz
    obtain ⟨_, hV1, hF1⟩ := hz
    refine j_aload_n dX8_gulpsAs_81 (q := 82) rfl rfl ?_
    refine j_iconst (v := 4) dX8_gulpsAs_82 (q := 83) rfl (by decide) ?_
    refine j_callSi1E (M' := M_X8_above) lk_X8_172 ms_X8_above (by omega) (Nat.le_of_ble_eq_true rfl) dX8_gulpsAs_83 (q := 86) rfl (ct_X8_aboveN (a := 4) (by decide)) ?_
    refine j_iload_n dX8_gulpsAs_86 (q := 87) rfl rfl ?_
    refine j_callVi2 (M' := M_X8_gulpsAs) lk_X8_230 mv_X8_gulpsAs ob_70 (by omega) (Nat.le_of_ble_eq_true rfl) dX8_gulpsAs_87 (q := 90) rfl (ct_gu_1 (n := n) (d := 2) (by decide) hK hk hV1) ?_
    intro x2 τ2 hz
    rw [hA] at hz
    obtain ⟨z2, hV2, hF2⟩ := hz
    cases z2
    refine j_iconst (v := 3) dX8_gulpsAs_90 (q := 91) rfl (by decide) ?_
    refine j_imul dX8_gulpsAs_91 (q := 92) rfl ?_
    refine j_ireti dX8_gulpsAs_92 rfl ?_
    exact ⟨rfl, hV2, hF2.tr hF1⟩
  · skip
    exact absurd e_1 (by decide)
  · skip
    exact absurd e_1 (by decide)
  · skip
    exact absurd rfl e_1_4
theorem ct_gu_2 {g : GT} {σ : S_} {d n : Nat} (hd : 2 ≤ d) {x : Int32} {K k : Nat} {m : Int32} {T : VT} (hK : K < 7) (hk : k < 7) (hV : VJ K k m σ T) : CT g d M_X8_gulpsAs [.ref 70, .int 2, .int x] σ (VY K k m σ (vS K k m (n + 1) 0 2 x T)) := by
  rw [show vS K k m (n + 1) 0 2 x T = vS K k m (n + 1) 0 0 x T from vS_eq (n := n + 0) (by decide)]
  generalize hA : vS K k m (n + 1) 0 0 x T = A
  obtain ⟨v1, v2, v3, v4, v5, v6, v7⟩ := id hV
  refine ct_of [.ref 70, .int 2, .int x] pn_X8_gulpsAs rfl (Nat.le_of_ble_eq_true rfl) ?_
  refine j_iload_n dX8_gulpsAs_0 (q := 1) rfl rfl ?_
  refine j_tsw_0_6 dX8_gulpsAs_1 (td := 102) (t0 := 44) (t1 := 57) (t2 := 102) (t3 := 102) (t4 := 75) (t5 := 102) (t6 := 93) (by decide) (by decide) (by decide) (by decide) (by decide) (by decide) (by decide) (by decide) (fun e_1 => ?_) (fun e_1 => ?_) (fun e_1 => ?_) (fun e_1 => ?_) (fun e_1 => ?_) (fun e_1 => ?_) (fun e_1 => ?_) (fun e_1_0 e_1_1 e_1_2 e_1_3 e_1_4 e_1_5 e_1_6 => ?_)
  · skip
    exact absurd e_1 (by decide)
  · skip
    exact absurd e_1 (by decide)
  · skip
    refine j_aload_n dX8_gulpsAs_102 (q := 103) rfl rfl ?_
    refine j_iload_n dX8_gulpsAs_103 (q := 104) rfl rfl ?_
    refine j_callSi1E (M' := M_X8_above) lk_X8_172 ms_X8_above (by omega) (Nat.le_of_ble_eq_true rfl) dX8_gulpsAs_104 (q := 107) rfl (ct_X8_aboveN (a := 2) (by decide)) ?_
    refine j_iload_n dX8_gulpsAs_107 (q := 108) rfl rfl ?_
    refine j_callVi2 (M' := M_X8_gulpsAs) lk_X8_230 mv_X8_gulpsAs ob_70 (by omega) (Nat.le_of_ble_eq_true rfl) dX8_gulpsAs_108 (q := 111) rfl (ct_gu_0 (n := n) (d := 1) (by decide) hK hk hV) ?_
    intro x2 τ2 hz
    rw [hA] at hz
    obtain ⟨z2, hV2, hF2⟩ := hz
    cases z2
    refine j_ireti dX8_gulpsAs_111 rfl ?_
    exact ⟨rfl, hV2, hF2⟩
  · skip
    exact absurd e_1 (by decide)
  · skip
    exact absurd e_1 (by decide)
  · skip
    exact absurd e_1 (by decide)
  · skip
    exact absurd e_1 (by decide)
  · skip
    exact absurd rfl e_1_2
theorem ct_gu_3 {g : GT} {σ : S_} {d n : Nat} (hd : 2 ≤ d) {x : Int32} {K k : Nat} {m : Int32} {T : VT} (hK : K < 7) (hk : k < 7) (hV : VJ K k m σ T) : CT g d M_X8_gulpsAs [.ref 70, .int 3, .int x] σ (VY K k m σ (vS K k m (n + 1) 0 3 x T)) := by
  rw [show vS K k m (n + 1) 0 3 x T = vS K k m (n + 1) 0 0 x T from vS_eq (n := n + 0) (by decide)]
  generalize hA : vS K k m (n + 1) 0 0 x T = A
  obtain ⟨v1, v2, v3, v4, v5, v6, v7⟩ := id hV
  refine ct_of [.ref 70, .int 3, .int x] pn_X8_gulpsAs rfl (Nat.le_of_ble_eq_true rfl) ?_
  refine j_iload_n dX8_gulpsAs_0 (q := 1) rfl rfl ?_
  refine j_tsw_0_6 dX8_gulpsAs_1 (td := 102) (t0 := 44) (t1 := 57) (t2 := 102) (t3 := 102) (t4 := 75) (t5 := 102) (t6 := 93) (by decide) (by decide) (by decide) (by decide) (by decide) (by decide) (by decide) (by decide) (fun e_1 => ?_) (fun e_1 => ?_) (fun e_1 => ?_) (fun e_1 => ?_) (fun e_1 => ?_) (fun e_1 => ?_) (fun e_1 => ?_) (fun e_1_0 e_1_1 e_1_2 e_1_3 e_1_4 e_1_5 e_1_6 => ?_)
  · skip
    exact absurd e_1 (by decide)
  · skip
    exact absurd e_1 (by decide)
  · skip
    exact absurd e_1 (by decide)
  · skip
    refine j_aload_n dX8_gulpsAs_102 (q := 103) rfl rfl ?_
    refine j_iload_n dX8_gulpsAs_103 (q := 104) rfl rfl ?_
    refine j_callSi1E (M' := M_X8_above) lk_X8_172 ms_X8_above (by omega) (Nat.le_of_ble_eq_true rfl) dX8_gulpsAs_104 (q := 107) rfl (ct_X8_aboveN (a := 3) (by decide)) ?_
    refine j_iload_n dX8_gulpsAs_107 (q := 108) rfl rfl ?_
    refine j_callVi2 (M' := M_X8_gulpsAs) lk_X8_230 mv_X8_gulpsAs ob_70 (by omega) (Nat.le_of_ble_eq_true rfl) dX8_gulpsAs_108 (q := 111) rfl (ct_gu_0 (n := n) (d := 1) (by decide) hK hk hV) ?_
    intro x2 τ2 hz
    rw [hA] at hz
    obtain ⟨z2, hV2, hF2⟩ := hz
    cases z2
    refine j_ireti dX8_gulpsAs_111 rfl ?_
    exact ⟨rfl, hV2, hF2⟩
  · skip
    exact absurd e_1 (by decide)
  · skip
    exact absurd e_1 (by decide)
  · skip
    exact absurd e_1 (by decide)
  · skip
    exact absurd rfl e_1_3
theorem ct_gu_5 {g : GT} {σ : S_} {d n : Nat} (hd : 3 ≤ d) {x : Int32} {K k : Nat} {m : Int32} {T : VT} (hK : K < 7) (hk : k < 7) (hV : VJ K k m σ T) : CT g d M_X8_gulpsAs [.ref 70, .int 5, .int x] σ (VY K k m σ (vS K k m (n + 1) 0 5 x T)) := by
  rw [show vS K k m (n + 1) 0 5 x T = vS K k m (n + 1) 0 2 x T from vS_eq (n := n + 0) (by decide)]
  generalize hA : vS K k m (n + 1) 0 2 x T = A
  obtain ⟨v1, v2, v3, v4, v5, v6, v7⟩ := id hV
  refine ct_of [.ref 70, .int 5, .int x] pn_X8_gulpsAs rfl (Nat.le_of_ble_eq_true rfl) ?_
  refine j_iload_n dX8_gulpsAs_0 (q := 1) rfl rfl ?_
  refine j_tsw_0_6 dX8_gulpsAs_1 (td := 102) (t0 := 44) (t1 := 57) (t2 := 102) (t3 := 102) (t4 := 75) (t5 := 102) (t6 := 93) (by decide) (by decide) (by decide) (by decide) (by decide) (by decide) (by decide) (by decide) (fun e_1 => ?_) (fun e_1 => ?_) (fun e_1 => ?_) (fun e_1 => ?_) (fun e_1 => ?_) (fun e_1 => ?_) (fun e_1 => ?_) (fun e_1_0 e_1_1 e_1_2 e_1_3 e_1_4 e_1_5 e_1_6 => ?_)
  · skip
    exact absurd e_1 (by decide)
  · skip
    exact absurd e_1 (by decide)
  · skip
    exact absurd e_1 (by decide)
  · skip
    exact absurd e_1 (by decide)
  · skip
    exact absurd e_1 (by decide)
  · skip
    refine j_aload_n dX8_gulpsAs_102 (q := 103) rfl rfl ?_
    refine j_iload_n dX8_gulpsAs_103 (q := 104) rfl rfl ?_
    refine j_callSi1E (M' := M_X8_above) lk_X8_172 ms_X8_above (by omega) (Nat.le_of_ble_eq_true rfl) dX8_gulpsAs_104 (q := 107) rfl (ct_X8_aboveN (a := 5) (by decide)) ?_
    refine j_iload_n dX8_gulpsAs_107 (q := 108) rfl rfl ?_
    refine j_callVi2 (M' := M_X8_gulpsAs) lk_X8_230 mv_X8_gulpsAs ob_70 (by omega) (Nat.le_of_ble_eq_true rfl) dX8_gulpsAs_108 (q := 111) rfl (ct_gu_2 (n := n) (d := 2) (by decide) hK hk hV) ?_
    intro x2 τ2 hz
    rw [hA] at hz
    obtain ⟨z2, hV2, hF2⟩ := hz
    cases z2
    refine j_ireti dX8_gulpsAs_111 rfl ?_
    exact ⟨rfl, hV2, hF2⟩
  · skip
    exact absurd e_1 (by decide)
  · skip
    exact absurd rfl e_1_5
theorem gu_any {g : GT} {σ : S_} {n a : Nat} {x : Int32} {K k : Nat} {m : Int32} {T : VT} (ha : a < 7) (hK : K < 7) (hk : k < 7) (hV : VJ K k m σ T) : CT g 3 M_X8_gulpsAs [.ref 70, .int (nI a), .int x] σ (VY K k m σ (vS K k m (n + 3) 0 a x T)) := by
  rcases (show a = 0 ∨ a = 1 ∨ a = 2 ∨ a = 3 ∨ a = 4 ∨ a = 5 ∨ a = 6 by omega) with rfl | rfl | rfl | rfl | rfl | rfl | rfl
  · exact ct_gu_0 (n := n + 2) (by decide) hK hk hV
  · exact ct_gu_1 (n := n + 1) (by decide) hK hk hV
  · exact ct_gu_2 (n := n + 2) (by decide) hK hk hV
  · exact ct_gu_3 (n := n + 2) (by decide) hK hk hV
  · exact ct_gu_4 (n := n + 0) (by decide) hK hk hV
  · exact ct_gu_5 (n := n + 2) (by decide) hK hk hV
  · exact ct_gu_6 (n := n + 2) (by decide) hK hk hV
theorem ct_si_0 {g : GT} {σ : S_} {d n : Nat} (hd : 4 ≤ d) {x : Int32} {K k : Nat} {m : Int32} {T : VT} (hK : K < 7) (hk : k < 7) (hV : VJ K k m σ T) : CT g d M_X8_sipsAs [.ref 70, .int 0, .int x] σ (VY K k m σ (vS K k m (n + 4) 1 0 x T)) := by
  rw [show vS K k m (n + 4) 1 0 x T = ((vS K k m (n + 3) 0 K x (stT 11 T)).1 * 2, (vS K k m (n + 3) 0 K x (stT 11 T)).2) from (vS_at (n := n + 3) (b := 11) (c := 0) (by decide) (by decide)).trans vB_11]
  generalize hA : vS K k m (n + 3) 0 K x (stT 11 T) = A
  obtain ⟨v1, v2, v3, v4, v5, v6, v7⟩ := id hV
  refine ct_of [.ref 70, .int 0, .int x] pn_X8_sipsAs rfl (Nat.le_of_ble_eq_true rfl) ?_
  refine j_iload_n dX8_sipsAs_0 (q := 1) rfl rfl ?_
  refine j_tsw_0_6 dX8_sipsAs_1 (td := 120) (t0 := 44) (t1 := 120) (t2 := 62) (t3 := 120) (t4 := 120) (t5 := 80) (t6 := 98) (by decide) (by decide) (by decide) (by decide) (by decide) (by decide) (by decide) (by decide) (fun e_1 => ?_) (fun e_1 => ?_) (fun e_1 => ?_) (fun e_1 => ?_) (fun e_1 => ?_) (fun e_1 => ?_) (fun e_1 => ?_) (fun e_1_0 e_1_1 e_1_2 e_1_3 e_1_4 e_1_5 e_1_6 => ?_)
  · skip
    refine j_aload_n dX8_sipsAs_44 (q := 45) rfl rfl ?_
    refine j_bipush (v := 11) dX8_sipsAs_45 (q := 47) rfl (by decide) ?_
    refine j_callVv1 (M' := M_X8_starts) lk_X8_226 mv_X8_starts ob_70 (by omega) (Nat.le_of_ble_eq_true rfl) dX8_sipsAs_47 (q := 50) rfl (ct_X8_starts (b := 11) hk hV) ?_
    intro τ1 hz
    obtain ⟨_, hV1, hF1⟩ := hz
    refine j_aload_n dX8_sipsAs_50 (q := 51) rfl rfl ?_
    refine j_aload_n dX8_sipsAs_51 (q := 52) rfl rfl ?_
    refine j_callVi0E (M' := M_X8_kindNow) lk_X8_233 mv_X8_kindNow ob_70 (by omega) (Nat.le_of_ble_eq_true rfl) dX8_sipsAs_52 (q := 55) rfl (ct_X8_kindNow hk hV1) ?_
    refine j_iload_n dX8_sipsAs_55 (q := 56) rfl rfl ?_
    refine j_callVi2 (M' := M_X8_gulpsAs) lk_X8_230 mv_X8_gulpsAs ob_70 (by omega) (Nat.le_of_ble_eq_true rfl) dX8_sipsAs_56 (q := 59) rfl (gu_any (n := n) hK hK hk hV1) ?_
    intro x2 τ2 hz
    rw [hA] at hz
    obtain ⟨z2, hV2, hF2⟩ := hz
    cases z2
    refine j_iconst (v := 2) dX8_sipsAs_59 (q := 60) rfl (by decide) ?_
    refine j_imul dX8_sipsAs_60 (q := 61) rfl ?_
    refine j_ireti dX8_sipsAs_61 rfl ?_
    exact ⟨rfl, hV2, hF2.tr hF1⟩
  · skip
    exact absurd e_1 (by decide)
  · skip
    exact absurd e_1 (by decide)
  · skip
    exact absurd e_1 (by decide)
  · skip
    exact absurd e_1 (by decide)
  · skip
    exact absurd e_1 (by decide)
  · skip
    exact absurd e_1 (by decide)
  · skip
    exact absurd rfl e_1_0
theorem ct_si_2 {g : GT} {σ : S_} {d n : Nat} (hd : 5 ≤ d) {x : Int32} {K k : Nat} {m : Int32} {T : VT} (hK : K < 7) (hk : k < 7) (hV : VJ K k m σ T) : CT g d M_X8_sipsAs [.ref 70, .int 2, .int x] σ (VY K k m σ (vS K k m (n + 5) 1 2 x T)) := by
  rw [show vS K k m (n + 5) 1 2 x T = (0 - (vS K k m (n + 4) 1 0 x (stT 30 T)).1, (vS K k m (n + 4) 1 0 x (stT 30 T)).2) from (vS_at (n := n + 4) (b := 30) (c := 0) (by decide) (by decide)).trans vB_30]
  generalize hA : vS K k m (n + 4) 1 0 x (stT 30 T) = A
  obtain ⟨v1, v2, v3, v4, v5, v6, v7⟩ := id hV
  refine ct_of [.ref 70, .int 2, .int x] pn_X8_sipsAs rfl (Nat.le_of_ble_eq_true rfl) ?_
  refine j_iload_n dX8_sipsAs_0 (q := 1) rfl rfl ?_
  refine j_tsw_0_6 dX8_sipsAs_1 (td := 120) (t0 := 44) (t1 := 120) (t2 := 62) (t3 := 120) (t4 := 120) (t5 := 80) (t6 := 98) (by decide) (by decide) (by decide) (by decide) (by decide) (by decide) (by decide) (by decide) (fun e_1 => ?_) (fun e_1 => ?_) (fun e_1 => ?_) (fun e_1 => ?_) (fun e_1 => ?_) (fun e_1 => ?_) (fun e_1 => ?_) (fun e_1_0 e_1_1 e_1_2 e_1_3 e_1_4 e_1_5 e_1_6 => ?_)
  · skip
    exact absurd e_1 (by decide)
  · skip
    exact absurd e_1 (by decide)
  · skip
    refine j_aload_n dX8_sipsAs_62 (q := 63) rfl rfl ?_
    refine j_bipush (v := 30) dX8_sipsAs_63 (q := 65) rfl (by decide) ?_
    refine j_callVv1 (M' := M_X8_starts) lk_X8_226 mv_X8_starts ob_70 (by omega) (Nat.le_of_ble_eq_true rfl) dX8_sipsAs_65 (q := 68) rfl (ct_X8_starts (b := 30) hk hV) ?_
    intro τ1 hz
    obtain ⟨_, hV1, hF1⟩ := hz
    refine j_iconst (v := 0) dX8_sipsAs_68 (q := 69) rfl (by decide) ?_
    refine j_aload_n dX8_sipsAs_69 (q := 70) rfl rfl ?_
    refine j_iconst (v := 2) dX8_sipsAs_70 (q := 71) rfl (by decide) ?_
    refine j_callSi1E (M' := M_X8_above) lk_X8_172 ms_X8_above (by omega) (Nat.le_of_ble_eq_true rfl) dX8_sipsAs_71 (q := 74) rfl (ct_X8_aboveN (a := 2) (by decide)) ?_
    refine j_iload_n dX8_sipsAs_74 (q := 75) rfl rfl ?_
    refine j_callVi2 (M' := M_X8_sipsAs) lk_X8_236 mv_X8_sipsAs ob_70 (by omega) (Nat.le_of_ble_eq_true rfl) dX8_sipsAs_75 (q := 78) rfl (ct_si_0 (n := n) (d := 4) (by decide) hK hk hV1) ?_
    intro x2 τ2 hz
    rw [hA] at hz
    obtain ⟨z2, hV2, hF2⟩ := hz
    cases z2
    refine j_isub dX8_sipsAs_78 (q := 79) rfl ?_
    refine j_ireti dX8_sipsAs_79 rfl ?_
    exact ⟨rfl, hV2, hF2.tr hF1⟩
  · skip
    exact absurd e_1 (by decide)
  · skip
    exact absurd e_1 (by decide)
  · skip
    exact absurd e_1 (by decide)
  · skip
    exact absurd e_1 (by decide)
  · skip
    exact absurd rfl e_1_2
theorem ct_si_5 {g : GT} {σ : S_} {d n : Nat} (hd : 6 ≤ d) {x : Int32} {K k : Nat} {m : Int32} {T : VT} (hK : K < 7) (hk : k < 7) (hV : VJ K k m σ T) : CT g d M_X8_sipsAs [.ref 70, .int 5, .int x] σ (VY K k m σ (vS K k m (n + 6) 1 5 x T)) := by
  rw [show vS K k m (n + 6) 1 5 x T = (vS K k m (n + 5) 1 2 (x + 1) (stT 60 T)) from (vS_at (n := n + 5) (b := 60) (c := 2) (by decide) (by decide)).trans vB_60]
  generalize hA : vS K k m (n + 5) 1 2 (x + 1) (stT 60 T) = A
  obtain ⟨v1, v2, v3, v4, v5, v6, v7⟩ := id hV
  refine ct_of [.ref 70, .int 5, .int x] pn_X8_sipsAs rfl (Nat.le_of_ble_eq_true rfl) ?_
  refine j_iload_n dX8_sipsAs_0 (q := 1) rfl rfl ?_
  refine j_tsw_0_6 dX8_sipsAs_1 (td := 120) (t0 := 44) (t1 := 120) (t2 := 62) (t3 := 120) (t4 := 120) (t5 := 80) (t6 := 98) (by decide) (by decide) (by decide) (by decide) (by decide) (by decide) (by decide) (by decide) (fun e_1 => ?_) (fun e_1 => ?_) (fun e_1 => ?_) (fun e_1 => ?_) (fun e_1 => ?_) (fun e_1 => ?_) (fun e_1 => ?_) (fun e_1_0 e_1_1 e_1_2 e_1_3 e_1_4 e_1_5 e_1_6 => ?_)
  · skip
    exact absurd e_1 (by decide)
  · skip
    exact absurd e_1 (by decide)
  · skip
    exact absurd e_1 (by decide)
  · skip
    exact absurd e_1 (by decide)
  · skip
    exact absurd e_1 (by decide)
  · skip
    refine j_aload_n dX8_sipsAs_80 (q := 81) rfl rfl ?_
    refine j_bipush (v := 60) dX8_sipsAs_81 (q := 83) rfl (by decide) ?_
    refine j_callVv1 (M' := M_X8_starts) lk_X8_226 mv_X8_starts ob_70 (by omega) (Nat.le_of_ble_eq_true rfl) dX8_sipsAs_83 (q := 86) rfl (ct_X8_starts (b := 60) hk hV) ?_
    intro τ1 hz
    obtain ⟨_, hV1, hF1⟩ := hz
    refine j_aload_n dX8_sipsAs_86 (q := 87) rfl rfl ?_
    refine j_iconst (v := 5) dX8_sipsAs_87 (q := 88) rfl (by decide) ?_
    refine j_callSi1E (M' := M_X8_above) lk_X8_172 ms_X8_above (by omega) (Nat.le_of_ble_eq_true rfl) dX8_sipsAs_88 (q := 91) rfl (ct_X8_aboveN (a := 5) (by decide)) ?_
    refine j_iload_n dX8_sipsAs_91 (q := 92) rfl rfl ?_
    refine j_iconst (v := 1) dX8_sipsAs_92 (q := 93) rfl (by decide) ?_
    refine j_iadd dX8_sipsAs_93 (q := 94) rfl ?_
    refine j_callVi2 (M' := M_X8_sipsAs) lk_X8_236 mv_X8_sipsAs ob_70 (by omega) (Nat.le_of_ble_eq_true rfl) dX8_sipsAs_94 (q := 97) rfl (ct_si_2 (n := n) (d := 5) (by decide) hK hk hV1) ?_
    intro x2 τ2 hz
    rw [hA] at hz
    obtain ⟨z2, hV2, hF2⟩ := hz
    cases z2
    refine j_ireti dX8_sipsAs_97 rfl ?_
    exact ⟨rfl, hV2, hF2.tr hF1⟩
  · skip
    exact absurd e_1 (by decide)
  · skip
    exact absurd rfl e_1_5
theorem ct_si_6 {g : GT} {σ : S_} {d n : Nat} (hd : 5 ≤ d) {x : Int32} {K k : Nat} {m : Int32} {T : VT} (hK : K < 7) (hk : k < 7) (hV : VJ K k m σ T) : CT g d M_X8_sipsAs [.ref 70, .int 6, .int x] σ (VY K k m σ (vS K k m (n + 5) 1 6 x T)) := by
  rw [show vS K k m (n + 5) 1 6 x T = ((vS K k m (n + 4) 1 0 x (stT 71 T)).1 + m, (vS K k m (n + 4) 1 0 x (stT 71 T)).2) from (vS_at (n := n + 4) (b := 71) (c := 0) (by decide) (by decide)).trans vB_71]
  generalize hA : vS K k m (n + 4) 1 0 x (stT 71 T) = A
  obtain ⟨v1, v2, v3, v4, v5, v6, v7⟩ := id hV
  refine ct_of [.ref 70, .int 6, .int x] pn_X8_sipsAs rfl (Nat.le_of_ble_eq_true rfl) ?_
  refine j_iload_n dX8_sipsAs_0 (q := 1) rfl rfl ?_
  refine j_tsw_0_6 dX8_sipsAs_1 (td := 120) (t0 := 44) (t1 := 120) (t2 := 62) (t3 := 120) (t4 := 120) (t5 := 80) (t6 := 98) (by decide) (by decide) (by decide) (by decide) (by decide) (by decide) (by decide) (by decide) (fun e_1 => ?_) (fun e_1 => ?_) (fun e_1 => ?_) (fun e_1 => ?_) (fun e_1 => ?_) (fun e_1 => ?_) (fun e_1 => ?_) (fun e_1_0 e_1_1 e_1_2 e_1_3 e_1_4 e_1_5 e_1_6 => ?_)
  · skip
    exact absurd e_1 (by decide)
  · skip
    exact absurd e_1 (by decide)
  · skip
    exact absurd e_1 (by decide)
  · skip
    exact absurd e_1 (by decide)
  · skip
    exact absurd e_1 (by decide)
  · skip
    exact absurd e_1 (by decide)
  · skip
    refine j_aload_n dX8_sipsAs_98 (q := 99) rfl rfl ?_
    refine j_bipush (v := 71) dX8_sipsAs_99 (q := 101) rfl (by decide) ?_
    refine j_callVv1 (M' := M_X8_starts) lk_X8_226 mv_X8_starts ob_70 (by omega) (Nat.le_of_ble_eq_true rfl) dX8_sipsAs_101 (q := 104) rfl (ct_X8_starts (b := 71) hk hV) ?_
    intro τ1 hz
    obtain ⟨_, hV1, hF1⟩ := hz
    refine j_aload_n dX8_sipsAs_104 (q := 105) rfl rfl ?_
    refine j_bipush (v := 6) dX8_sipsAs_105 (q := 107) rfl (by decide) ?_
    refine j_callSi1E (M' := M_X8_above) lk_X8_172 ms_X8_above (by omega) (Nat.le_of_ble_eq_true rfl) dX8_sipsAs_107 (q := 110) rfl (ct_X8_aboveN (a := 6) (by decide)) ?_
    refine j_iload_n dX8_sipsAs_110 (q := 111) rfl rfl ?_
    refine j_callVi2 (M' := M_X8_sipsAs) lk_X8_236 mv_X8_sipsAs ob_70 (by omega) (Nat.le_of_ble_eq_true rfl) dX8_sipsAs_111 (q := 114) rfl (ct_si_0 (n := n) (d := 4) (by decide) hK hk hV1) ?_
    intro x2 τ2 hz
    rw [hA] at hz
    obtain ⟨z2, hV2, hF2⟩ := hz
    cases z2
    refine j_aload_n dX8_sipsAs_114 (q := 115) rfl rfl ?_
    refine j_callVi0E (M' := M_X8_mNow) lk_X8_239 mv_X8_mNow ob_70 (by omega) (Nat.le_of_ble_eq_true rfl) dX8_sipsAs_115 (q := 118) rfl (ct_X8_mNow hk hV2) ?_
    refine j_iadd dX8_sipsAs_118 (q := 119) rfl ?_
    refine j_ireti dX8_sipsAs_119 rfl ?_
    exact ⟨rfl, hV2, hF2.tr hF1⟩
  · skip
    exact absurd rfl e_1_6
theorem ct_si_1 {g : GT} {σ : S_} {d n : Nat} (hd : 5 ≤ d) {x : Int32} {K k : Nat} {m : Int32} {T : VT} (hK : K < 7) (hk : k < 7) (hV : VJ K k m σ T) : CT g d M_X8_sipsAs [.ref 70, .int 1, .int x] σ (VY K k m σ (vS K k m (n + 4) 1 1 x T)) := by
  rw [show vS K k m (n + 4) 1 1 x T = vS K k m (n + 4) 1 0 x T from vS_eq (n := n + 3) (by decide)]
  generalize hA : vS K k m (n + 4) 1 0 x T = A
  obtain ⟨v1, v2, v3, v4, v5, v6, v7⟩ := id hV
  refine ct_of [.ref 70, .int 1, .int x] pn_X8_sipsAs rfl (Nat.le_of_ble_eq_true rfl) ?_
  refine j_iload_n dX8_sipsAs_0 (q := 1) rfl rfl ?_
  refine j_tsw_0_6 dX8_sipsAs_1 (td := 120) (t0 := 44) (t1 := 120) (t2 := 62) (t3 := 120) (t4 := 120) (t5 := 80) (t6 := 98) (by decide) (by decide) (by decide) (by decide) (by decide) (by decide) (by decide) (by decide) (fun e_1 => ?_) (fun e_1 => ?_) (fun e_1 => ?_) (fun e_1 => ?_) (fun e_1 => ?_) (fun e_1 => ?_) (fun e_1 => ?_) (fun e_1_0 e_1_1 e_1_2 e_1_3 e_1_4 e_1_5 e_1_6 => ?_)
  · skip
    exact absurd e_1 (by decide)
  · skip
    refine j_aload_n dX8_sipsAs_120 (q := 121) rfl rfl ?_
    refine j_iload_n dX8_sipsAs_121 (q := 122) rfl rfl ?_
    refine j_callSi1E (M' := M_X8_above) lk_X8_172 ms_X8_above (by omega) (Nat.le_of_ble_eq_true rfl) dX8_sipsAs_122 (q := 125) rfl (ct_X8_aboveN (a := 1) (by decide)) ?_
    refine j_iload_n dX8_sipsAs_125 (q := 126) rfl rfl ?_
    refine j_callVi2 (M' := M_X8_sipsAs) lk_X8_236 mv_X8_sipsAs ob_70 (by omega) (Nat.le_of_ble_eq_true rfl) dX8_sipsAs_126 (q := 129) rfl (ct_si_0 (n := n) (d := 4) (by decide) hK hk hV) ?_
    intro x2 τ2 hz
    rw [hA] at hz
    obtain ⟨z2, hV2, hF2⟩ := hz
    cases z2
    refine j_ireti dX8_sipsAs_129 rfl ?_
    exact ⟨rfl, hV2, hF2⟩
  · skip
    exact absurd e_1 (by decide)
  · skip
    exact absurd e_1 (by decide)
  · skip
    exact absurd e_1 (by decide)
  · skip
    exact absurd e_1 (by decide)
  · skip
    exact absurd e_1 (by decide)
  · skip
    exact absurd rfl e_1_1
theorem ct_si_3 {g : GT} {σ : S_} {d n : Nat} (hd : 5 ≤ d) {x : Int32} {K k : Nat} {m : Int32} {T : VT} (hK : K < 7) (hk : k < 7) (hV : VJ K k m σ T) : CT g d M_X8_sipsAs [.ref 70, .int 3, .int x] σ (VY K k m σ (vS K k m (n + 4) 1 3 x T)) := by
  rw [show vS K k m (n + 4) 1 3 x T = vS K k m (n + 4) 1 0 x T from vS_eq (n := n + 3) (by decide)]
  generalize hA : vS K k m (n + 4) 1 0 x T = A
  obtain ⟨v1, v2, v3, v4, v5, v6, v7⟩ := id hV
  refine ct_of [.ref 70, .int 3, .int x] pn_X8_sipsAs rfl (Nat.le_of_ble_eq_true rfl) ?_
  refine j_iload_n dX8_sipsAs_0 (q := 1) rfl rfl ?_
  refine j_tsw_0_6 dX8_sipsAs_1 (td := 120) (t0 := 44) (t1 := 120) (t2 := 62) (t3 := 120) (t4 := 120) (t5 := 80) (t6 := 98) (by decide) (by decide) (by decide) (by decide) (by decide) (by decide) (by decide) (by decide) (fun e_1 => ?_) (fun e_1 => ?_) (fun e_1 => ?_) (fun e_1 => ?_) (fun e_1 => ?_) (fun e_1 => ?_) (fun e_1 => ?_) (fun e_1_0 e_1_1 e_1_2 e_1_3 e_1_4 e_1_5 e_1_6 => ?_)
  · skip
    exact absurd e_1 (by decide)
  · skip
    exact absurd e_1 (by decide)
  · skip
    exact absurd e_1 (by decide)
  · skip
    refine j_aload_n dX8_sipsAs_120 (q := 121) rfl rfl ?_
    refine j_iload_n dX8_sipsAs_121 (q := 122) rfl rfl ?_
    refine j_callSi1E (M' := M_X8_above) lk_X8_172 ms_X8_above (by omega) (Nat.le_of_ble_eq_true rfl) dX8_sipsAs_122 (q := 125) rfl (ct_X8_aboveN (a := 3) (by decide)) ?_
    refine j_iload_n dX8_sipsAs_125 (q := 126) rfl rfl ?_
    refine j_callVi2 (M' := M_X8_sipsAs) lk_X8_236 mv_X8_sipsAs ob_70 (by omega) (Nat.le_of_ble_eq_true rfl) dX8_sipsAs_126 (q := 129) rfl (ct_si_0 (n := n) (d := 4) (by decide) hK hk hV) ?_
    intro x2 τ2 hz
    rw [hA] at hz
    obtain ⟨z2, hV2, hF2⟩ := hz
    cases z2
    refine j_ireti dX8_sipsAs_129 rfl ?_
    exact ⟨rfl, hV2, hF2⟩
  · skip
    exact absurd e_1 (by decide)
  · skip
    exact absurd e_1 (by decide)
  · skip
    exact absurd e_1 (by decide)
  · skip
    exact absurd rfl e_1_3
theorem ct_si_4 {g : GT} {σ : S_} {d n : Nat} (hd : 6 ≤ d) {x : Int32} {K k : Nat} {m : Int32} {T : VT} (hK : K < 7) (hk : k < 7) (hV : VJ K k m σ T) : CT g d M_X8_sipsAs [.ref 70, .int 4, .int x] σ (VY K k m σ (vS K k m (n + 4) 1 4 x T)) := by
  rw [show vS K k m (n + 4) 1 4 x T = vS K k m (n + 4) 1 1 x T from vS_eq (n := n + 3) (by decide)]
  generalize hA : vS K k m (n + 4) 1 1 x T = A
  obtain ⟨v1, v2, v3, v4, v5, v6, v7⟩ := id hV
  refine ct_of [.ref 70, .int 4, .int x] pn_X8_sipsAs rfl (Nat.le_of_ble_eq_true rfl) ?_
  refine j_iload_n dX8_sipsAs_0 (q := 1) rfl rfl ?_
  refine j_tsw_0_6 dX8_sipsAs_1 (td := 120) (t0 := 44) (t1 := 120) (t2 := 62) (t3 := 120) (t4 := 120) (t5 := 80) (t6 := 98) (by decide) (by decide) (by decide) (by decide) (by decide) (by decide) (by decide) (by decide) (fun e_1 => ?_) (fun e_1 => ?_) (fun e_1 => ?_) (fun e_1 => ?_) (fun e_1 => ?_) (fun e_1 => ?_) (fun e_1 => ?_) (fun e_1_0 e_1_1 e_1_2 e_1_3 e_1_4 e_1_5 e_1_6 => ?_)
  · skip
    exact absurd e_1 (by decide)
  · skip
    exact absurd e_1 (by decide)
  · skip
    exact absurd e_1 (by decide)
  · skip
    exact absurd e_1 (by decide)
  · skip
    refine j_aload_n dX8_sipsAs_120 (q := 121) rfl rfl ?_
    refine j_iload_n dX8_sipsAs_121 (q := 122) rfl rfl ?_
    refine j_callSi1E (M' := M_X8_above) lk_X8_172 ms_X8_above (by omega) (Nat.le_of_ble_eq_true rfl) dX8_sipsAs_122 (q := 125) rfl (ct_X8_aboveN (a := 4) (by decide)) ?_
    refine j_iload_n dX8_sipsAs_125 (q := 126) rfl rfl ?_
    refine j_callVi2 (M' := M_X8_sipsAs) lk_X8_236 mv_X8_sipsAs ob_70 (by omega) (Nat.le_of_ble_eq_true rfl) dX8_sipsAs_126 (q := 129) rfl (ct_si_1 (n := n) (d := 5) (by decide) hK hk hV) ?_
    intro x2 τ2 hz
    rw [hA] at hz
    obtain ⟨z2, hV2, hF2⟩ := hz
    cases z2
    refine j_ireti dX8_sipsAs_129 rfl ?_
    exact ⟨rfl, hV2, hF2⟩
  · skip
    exact absurd e_1 (by decide)
  · skip
    exact absurd e_1 (by decide)
  · skip
    exact absurd rfl e_1_4
theorem si_any {g : GT} {σ : S_} {n a : Nat} {x : Int32} {K k : Nat} {m : Int32} {T : VT} (ha : a < 7) (hK : K < 7) (hk : k < 7) (hV : VJ K k m σ T) : CT g 6 M_X8_sipsAs [.ref 70, .int (nI a), .int x] σ (VY K k m σ (vS K k m (n + 6) 1 a x T)) := by
  rcases (show a = 0 ∨ a = 1 ∨ a = 2 ∨ a = 3 ∨ a = 4 ∨ a = 5 ∨ a = 6 by omega) with rfl | rfl | rfl | rfl | rfl | rfl | rfl
  · exact ct_si_0 (n := n + 2) (by decide) hK hk hV
  · exact ct_si_1 (n := n + 2) (by decide) hK hk hV
  · exact ct_si_2 (n := n + 1) (by decide) hK hk hV
  · exact ct_si_3 (n := n + 2) (by decide) hK hk hV
  · exact ct_si_4 (n := n + 2) (by decide) hK hk hV
  · exact ct_si_5 (n := n + 0) (by decide) hK hk hV
  · exact ct_si_6 (n := n + 1) (by decide) hK hk hV
theorem ct_sg_0 {g : GT} {σ : S_} {d n : Nat} (hd : 7 ≤ d) {x : Int32} {K k : Nat} {m : Int32} {T : VT} (hK : K < 7) (hk : k < 7) (hV : VJ K k m σ T) : CT g d M_X8_sighsAs [.ref 70, .int 0, .int x] σ (VY K k m σ (vS K k m (n + 7) 2 0 x T)) := by
  rw [show vS K k m (n + 7) 2 0 x T = ((vS K k m (n + 6) 1 K x (stT 12 T)).1 - m, (vS K k m (n + 6) 1 K x (stT 12 T)).2) from (vS_at (n := n + 6) (b := 12) (c := 0) (by decide) (by decide)).trans vB_12]
  generalize hA : vS K k m (n + 6) 1 K x (stT 12 T) = A
  obtain ⟨v1, v2, v3, v4, v5, v6, v7⟩ := id hV
  refine ct_of [.ref 70, .int 0, .int x] pn_X8_sighsAs rfl (Nat.le_of_ble_eq_true rfl) ?_
  refine j_iload_n dX8_sighsAs_0 (q := 1) rfl rfl ?_
  refine j_tsw_0_4 dX8_sighsAs_1 (td := 96) (t0 := 36) (t1 := 96) (t2 := 96) (t3 := 57) (t4 := 75) (by decide) (by decide) (by decide) (by decide) (by decide) (by decide) (fun e_1 => ?_) (fun e_1 => ?_) (fun e_1 => ?_) (fun e_1 => ?_) (fun e_1 => ?_) (fun e_1_0 e_1_1 e_1_2 e_1_3 e_1_4 => ?_)
  · skip
    refine j_aload_n dX8_sighsAs_36 (q := 37) rfl rfl ?_
    refine j_bipush (v := 12) dX8_sighsAs_37 (q := 39) rfl (by decide) ?_
    refine j_callVv1 (M' := M_X8_starts) lk_X8_226 mv_X8_starts ob_70 (by omega) (Nat.le_of_ble_eq_true rfl) dX8_sighsAs_39 (q := 42) rfl (ct_X8_starts (b := 12) hk hV) ?_
    intro τ1 hz
    obtain ⟨_, hV1, hF1⟩ := hz
    refine j_aload_n dX8_sighsAs_42 (q := 43) rfl rfl ?_
    refine j_aload_n dX8_sighsAs_43 (q := 44) rfl rfl ?_
    refine j_callVi0E (M' := M_X8_kindNow) lk_X8_233 mv_X8_kindNow ob_70 (by omega) (Nat.le_of_ble_eq_true rfl) dX8_sighsAs_44 (q := 47) rfl (ct_X8_kindNow hk hV1) ?_
    refine j_iload_n dX8_sighsAs_47 (q := 48) rfl rfl ?_
    refine j_callVi2 (M' := M_X8_sipsAs) lk_X8_236 mv_X8_sipsAs ob_70 (by omega) (Nat.le_of_ble_eq_true rfl) dX8_sighsAs_48 (q := 51) rfl (si_any (n := n) hK hK hk hV1) ?_
    intro x2 τ2 hz
    rw [hA] at hz
    obtain ⟨z2, hV2, hF2⟩ := hz
    cases z2
    refine j_aload_n dX8_sighsAs_51 (q := 52) rfl rfl ?_
    refine j_callVi0E (M' := M_X8_mNow) lk_X8_239 mv_X8_mNow ob_70 (by omega) (Nat.le_of_ble_eq_true rfl) dX8_sighsAs_52 (q := 55) rfl (ct_X8_mNow hk hV2) ?_
    refine j_isub dX8_sighsAs_55 (q := 56) rfl ?_
    refine j_ireti dX8_sighsAs_56 rfl ?_
    exact ⟨rfl, hV2, hF2.tr hF1⟩
  · skip
    exact absurd e_1 (by decide)
  · skip
    exact absurd e_1 (by decide)
  · skip
    exact absurd e_1 (by decide)
  · skip
    exact absurd e_1 (by decide)
  · skip
    exact absurd rfl e_1_0
theorem ct_sg_3 {g : GT} {σ : S_} {d n : Nat} (hd : 8 ≤ d) {x : Int32} {K k : Nat} {m : Int32} {T : VT} (hK : K < 7) (hk : k < 7) (hV : VJ K k m σ T) : CT g d M_X8_sighsAs [.ref 70, .int 3, .int x] σ (VY K k m σ (vS K k m (n + 8) 2 3 x T)) := by
  rw [show vS K k m (n + 8) 2 3 x T = (vS K k m (n + 7) 2 0 (x / 2) (stT 40 T)) from (vS_at (n := n + 7) (b := 40) (c := 0) (by decide) (by decide)).trans vB_40]
  generalize hA : vS K k m (n + 7) 2 0 (x / 2) (stT 40 T) = A
  obtain ⟨v1, v2, v3, v4, v5, v6, v7⟩ := id hV
  refine ct_of [.ref 70, .int 3, .int x] pn_X8_sighsAs rfl (Nat.le_of_ble_eq_true rfl) ?_
  refine j_iload_n dX8_sighsAs_0 (q := 1) rfl rfl ?_
  refine j_tsw_0_4 dX8_sighsAs_1 (td := 96) (t0 := 36) (t1 := 96) (t2 := 96) (t3 := 57) (t4 := 75) (by decide) (by decide) (by decide) (by decide) (by decide) (by decide) (fun e_1 => ?_) (fun e_1 => ?_) (fun e_1 => ?_) (fun e_1 => ?_) (fun e_1 => ?_) (fun e_1_0 e_1_1 e_1_2 e_1_3 e_1_4 => ?_)
  · skip
    exact absurd e_1 (by decide)
  · skip
    exact absurd e_1 (by decide)
  · skip
    exact absurd e_1 (by decide)
  · skip
    refine j_aload_n dX8_sighsAs_57 (q := 58) rfl rfl ?_
    refine j_bipush (v := 40) dX8_sighsAs_58 (q := 60) rfl (by decide) ?_
    refine j_callVv1 (M' := M_X8_starts) lk_X8_226 mv_X8_starts ob_70 (by omega) (Nat.le_of_ble_eq_true rfl) dX8_sighsAs_60 (q := 63) rfl (ct_X8_starts (b := 40) hk hV) ?_
    intro τ1 hz
    obtain ⟨_, hV1, hF1⟩ := hz
    refine j_aload_n dX8_sighsAs_63 (q := 64) rfl rfl ?_
    refine j_iconst (v := 3) dX8_sighsAs_64 (q := 65) rfl (by decide) ?_
    refine j_callSi1E (M' := M_X8_above) lk_X8_172 ms_X8_above (by omega) (Nat.le_of_ble_eq_true rfl) dX8_sighsAs_65 (q := 68) rfl (ct_X8_aboveN (a := 3) (by decide)) ?_
    refine j_iload_n dX8_sighsAs_68 (q := 69) rfl rfl ?_
    refine j_iconst (v := 2) dX8_sighsAs_69 (q := 70) rfl (by decide) ?_
    refine j_idiv dX8_sighsAs_70 (q := 71) rfl (by decide) ?_
    refine j_callVi2 (M' := M_X8_sighsAs) lk_X8_242 mv_X8_sighsAs ob_70 (by omega) (Nat.le_of_ble_eq_true rfl) dX8_sighsAs_71 (q := 74) rfl (ct_sg_0 (n := n) (d := 7) (by decide) hK hk hV1) ?_
    intro x2 τ2 hz
    rw [hA] at hz
    obtain ⟨z2, hV2, hF2⟩ := hz
    cases z2
    refine j_ireti dX8_sighsAs_74 rfl ?_
    exact ⟨rfl, hV2, hF2.tr hF1⟩
  · skip
    exact absurd e_1 (by decide)
  · skip
    exact absurd rfl e_1_3
theorem ct_sg_1 {g : GT} {σ : S_} {d n : Nat} (hd : 8 ≤ d) {x : Int32} {K k : Nat} {m : Int32} {T : VT} (hK : K < 7) (hk : k < 7) (hV : VJ K k m σ T) : CT g d M_X8_sighsAs [.ref 70, .int 1, .int x] σ (VY K k m σ (vS K k m (n + 7) 2 1 x T)) := by
  rw [show vS K k m (n + 7) 2 1 x T = vS K k m (n + 7) 2 0 x T from vS_eq (n := n + 6) (by decide)]
  generalize hA : vS K k m (n + 7) 2 0 x T = A
  obtain ⟨v1, v2, v3, v4, v5, v6, v7⟩ := id hV
  refine ct_of [.ref 70, .int 1, .int x] pn_X8_sighsAs rfl (Nat.le_of_ble_eq_true rfl) ?_
  refine j_iload_n dX8_sighsAs_0 (q := 1) rfl rfl ?_
  refine j_tsw_0_4 dX8_sighsAs_1 (td := 96) (t0 := 36) (t1 := 96) (t2 := 96) (t3 := 57) (t4 := 75) (by decide) (by decide) (by decide) (by decide) (by decide) (by decide) (fun e_1 => ?_) (fun e_1 => ?_) (fun e_1 => ?_) (fun e_1 => ?_) (fun e_1 => ?_) (fun e_1_0 e_1_1 e_1_2 e_1_3 e_1_4 => ?_)
  · skip
    exact absurd e_1 (by decide)
  · skip
    refine j_aload_n dX8_sighsAs_96 (q := 97) rfl rfl ?_
    refine j_iload_n dX8_sighsAs_97 (q := 98) rfl rfl ?_
    refine j_callSi1E (M' := M_X8_above) lk_X8_172 ms_X8_above (by omega) (Nat.le_of_ble_eq_true rfl) dX8_sighsAs_98 (q := 101) rfl (ct_X8_aboveN (a := 1) (by decide)) ?_
    refine j_iload_n dX8_sighsAs_101 (q := 102) rfl rfl ?_
    refine j_callVi2 (M' := M_X8_sighsAs) lk_X8_242 mv_X8_sighsAs ob_70 (by omega) (Nat.le_of_ble_eq_true rfl) dX8_sighsAs_102 (q := 105) rfl (ct_sg_0 (n := n) (d := 7) (by decide) hK hk hV) ?_
    intro x2 τ2 hz
    rw [hA] at hz
    obtain ⟨z2, hV2, hF2⟩ := hz
    cases z2
    refine j_ireti dX8_sighsAs_105 rfl ?_
    exact ⟨rfl, hV2, hF2⟩
  · skip
    exact absurd e_1 (by decide)
  · skip
    exact absurd e_1 (by decide)
  · skip
    exact absurd e_1 (by decide)
  · skip
    exact absurd rfl e_1_1
theorem ct_sg_2 {g : GT} {σ : S_} {d n : Nat} (hd : 8 ≤ d) {x : Int32} {K k : Nat} {m : Int32} {T : VT} (hK : K < 7) (hk : k < 7) (hV : VJ K k m σ T) : CT g d M_X8_sighsAs [.ref 70, .int 2, .int x] σ (VY K k m σ (vS K k m (n + 7) 2 2 x T)) := by
  rw [show vS K k m (n + 7) 2 2 x T = vS K k m (n + 7) 2 0 x T from vS_eq (n := n + 6) (by decide)]
  generalize hA : vS K k m (n + 7) 2 0 x T = A
  obtain ⟨v1, v2, v3, v4, v5, v6, v7⟩ := id hV
  refine ct_of [.ref 70, .int 2, .int x] pn_X8_sighsAs rfl (Nat.le_of_ble_eq_true rfl) ?_
  refine j_iload_n dX8_sighsAs_0 (q := 1) rfl rfl ?_
  refine j_tsw_0_4 dX8_sighsAs_1 (td := 96) (t0 := 36) (t1 := 96) (t2 := 96) (t3 := 57) (t4 := 75) (by decide) (by decide) (by decide) (by decide) (by decide) (by decide) (fun e_1 => ?_) (fun e_1 => ?_) (fun e_1 => ?_) (fun e_1 => ?_) (fun e_1 => ?_) (fun e_1_0 e_1_1 e_1_2 e_1_3 e_1_4 => ?_)
  · skip
    exact absurd e_1 (by decide)
  · skip
    exact absurd e_1 (by decide)
  · skip
    refine j_aload_n dX8_sighsAs_96 (q := 97) rfl rfl ?_
    refine j_iload_n dX8_sighsAs_97 (q := 98) rfl rfl ?_
    refine j_callSi1E (M' := M_X8_above) lk_X8_172 ms_X8_above (by omega) (Nat.le_of_ble_eq_true rfl) dX8_sighsAs_98 (q := 101) rfl (ct_X8_aboveN (a := 2) (by decide)) ?_
    refine j_iload_n dX8_sighsAs_101 (q := 102) rfl rfl ?_
    refine j_callVi2 (M' := M_X8_sighsAs) lk_X8_242 mv_X8_sighsAs ob_70 (by omega) (Nat.le_of_ble_eq_true rfl) dX8_sighsAs_102 (q := 105) rfl (ct_sg_0 (n := n) (d := 7) (by decide) hK hk hV) ?_
    intro x2 τ2 hz
    rw [hA] at hz
    obtain ⟨z2, hV2, hF2⟩ := hz
    cases z2
    refine j_ireti dX8_sighsAs_105 rfl ?_
    exact ⟨rfl, hV2, hF2⟩
  · skip
    exact absurd e_1 (by decide)
  · skip
    exact absurd e_1 (by decide)
  · skip
    exact absurd rfl e_1_2
theorem ct_sg_5 {g : GT} {σ : S_} {d n : Nat} (hd : 9 ≤ d) {x : Int32} {K k : Nat} {m : Int32} {T : VT} (hK : K < 7) (hk : k < 7) (hV : VJ K k m σ T) : CT g d M_X8_sighsAs [.ref 70, .int 5, .int x] σ (VY K k m σ (vS K k m (n + 7) 2 5 x T)) := by
  rw [show vS K k m (n + 7) 2 5 x T = vS K k m (n + 7) 2 2 x T from vS_eq (n := n + 6) (by decide)]
  generalize hA : vS K k m (n + 7) 2 2 x T = A
  obtain ⟨v1, v2, v3, v4, v5, v6, v7⟩ := id hV
  refine ct_of [.ref 70, .int 5, .int x] pn_X8_sighsAs rfl (Nat.le_of_ble_eq_true rfl) ?_
  refine j_iload_n dX8_sighsAs_0 (q := 1) rfl rfl ?_
  refine j_tsw_0_4 dX8_sighsAs_1 (td := 96) (t0 := 36) (t1 := 96) (t2 := 96) (t3 := 57) (t4 := 75) (by decide) (by decide) (by decide) (by decide) (by decide) (by decide) (fun e_1 => ?_) (fun e_1 => ?_) (fun e_1 => ?_) (fun e_1 => ?_) (fun e_1 => ?_) (fun e_1_0 e_1_1 e_1_2 e_1_3 e_1_4 => ?_)
  · skip
    exact absurd e_1 (by decide)
  · skip
    exact absurd e_1 (by decide)
  · skip
    exact absurd e_1 (by decide)
  · skip
    exact absurd e_1 (by decide)
  · skip
    exact absurd e_1 (by decide)
  · skip
    refine j_aload_n dX8_sighsAs_96 (q := 97) rfl rfl ?_
    refine j_iload_n dX8_sighsAs_97 (q := 98) rfl rfl ?_
    refine j_callSi1E (M' := M_X8_above) lk_X8_172 ms_X8_above (by omega) (Nat.le_of_ble_eq_true rfl) dX8_sighsAs_98 (q := 101) rfl (ct_X8_aboveN (a := 5) (by decide)) ?_
    refine j_iload_n dX8_sighsAs_101 (q := 102) rfl rfl ?_
    refine j_callVi2 (M' := M_X8_sighsAs) lk_X8_242 mv_X8_sighsAs ob_70 (by omega) (Nat.le_of_ble_eq_true rfl) dX8_sighsAs_102 (q := 105) rfl (ct_sg_2 (n := n) (d := 8) (by decide) hK hk hV) ?_
    intro x2 τ2 hz
    rw [hA] at hz
    obtain ⟨z2, hV2, hF2⟩ := hz
    cases z2
    refine j_ireti dX8_sighsAs_105 rfl ?_
    exact ⟨rfl, hV2, hF2⟩
theorem ct_sg_6 {g : GT} {σ : S_} {d n : Nat} (hd : 8 ≤ d) {x : Int32} {K k : Nat} {m : Int32} {T : VT} (hK : K < 7) (hk : k < 7) (hV : VJ K k m σ T) : CT g d M_X8_sighsAs [.ref 70, .int 6, .int x] σ (VY K k m σ (vS K k m (n + 7) 2 6 x T)) := by
  rw [show vS K k m (n + 7) 2 6 x T = vS K k m (n + 7) 2 0 x T from vS_eq (n := n + 6) (by decide)]
  generalize hA : vS K k m (n + 7) 2 0 x T = A
  obtain ⟨v1, v2, v3, v4, v5, v6, v7⟩ := id hV
  refine ct_of [.ref 70, .int 6, .int x] pn_X8_sighsAs rfl (Nat.le_of_ble_eq_true rfl) ?_
  refine j_iload_n dX8_sighsAs_0 (q := 1) rfl rfl ?_
  refine j_tsw_0_4 dX8_sighsAs_1 (td := 96) (t0 := 36) (t1 := 96) (t2 := 96) (t3 := 57) (t4 := 75) (by decide) (by decide) (by decide) (by decide) (by decide) (by decide) (fun e_1 => ?_) (fun e_1 => ?_) (fun e_1 => ?_) (fun e_1 => ?_) (fun e_1 => ?_) (fun e_1_0 e_1_1 e_1_2 e_1_3 e_1_4 => ?_)
  · skip
    exact absurd e_1 (by decide)
  · skip
    exact absurd e_1 (by decide)
  · skip
    exact absurd e_1 (by decide)
  · skip
    exact absurd e_1 (by decide)
  · skip
    exact absurd e_1 (by decide)
  · skip
    refine j_aload_n dX8_sighsAs_96 (q := 97) rfl rfl ?_
    refine j_iload_n dX8_sighsAs_97 (q := 98) rfl rfl ?_
    refine j_callSi1E (M' := M_X8_above) lk_X8_172 ms_X8_above (by omega) (Nat.le_of_ble_eq_true rfl) dX8_sighsAs_98 (q := 101) rfl (ct_X8_aboveN (a := 6) (by decide)) ?_
    refine j_iload_n dX8_sighsAs_101 (q := 102) rfl rfl ?_
    refine j_callVi2 (M' := M_X8_sighsAs) lk_X8_242 mv_X8_sighsAs ob_70 (by omega) (Nat.le_of_ble_eq_true rfl) dX8_sighsAs_102 (q := 105) rfl (ct_sg_0 (n := n) (d := 7) (by decide) hK hk hV) ?_
    intro x2 τ2 hz
    rw [hA] at hz
    obtain ⟨z2, hV2, hF2⟩ := hz
    cases z2
    refine j_ireti dX8_sighsAs_105 rfl ?_
    exact ⟨rfl, hV2, hF2⟩
theorem ct_sg_4 {g : GT} {σ : S_} {d n : Nat} (hd : 9 ≤ d) {x : Int32} {K k : Nat} {m : Int32} {T : VT} (hK : K < 7) (hk : k < 7) (hV : VJ K k m σ T) : CT g d M_X8_sighsAs [.ref 70, .int 4, .int x] σ (VY K k m σ (vS K k m (n + 8) 2 4 x T)) := by
  rw [show vS K k m (n + 8) 2 4 x T = ((vS K k m (n + 7) 2 1 x (stT 51 T)).1 ^^^ nI k, (vS K k m (n + 7) 2 1 x (stT 51 T)).2) from (vS_at (n := n + 7) (b := 51) (c := 1) (by decide) (by decide)).trans vB_51]
  generalize hA : vS K k m (n + 7) 2 1 x (stT 51 T) = A
  obtain ⟨v1, v2, v3, v4, v5, v6, v7⟩ := id hV
  refine ct_of [.ref 70, .int 4, .int x] pn_X8_sighsAs rfl (Nat.le_of_ble_eq_true rfl) ?_
  refine j_iload_n dX8_sighsAs_0 (q := 1) rfl rfl ?_
  refine j_tsw_0_4 dX8_sighsAs_1 (td := 96) (t0 := 36) (t1 := 96) (t2 := 96) (t3 := 57) (t4 := 75) (by decide) (by decide) (by decide) (by decide) (by decide) (by decide) (fun e_1 => ?_) (fun e_1 => ?_) (fun e_1 => ?_) (fun e_1 => ?_) (fun e_1 => ?_) (fun e_1_0 e_1_1 e_1_2 e_1_3 e_1_4 => ?_)
  · skip
    exact absurd e_1 (by decide)
  · skip
    exact absurd e_1 (by decide)
  · skip
    exact absurd e_1 (by decide)
  · skip
    exact absurd e_1 (by decide)
  · skip
    refine j_aload_n dX8_sighsAs_75 (q := 76) rfl rfl ?_
    refine j_bipush (v := 51) dX8_sighsAs_76 (q := 78) rfl (by decide) ?_
    refine j_callVv1 (M' := M_X8_starts) lk_X8_226 mv_X8_starts ob_70 (by omega) (Nat.le_of_ble_eq_true rfl) dX8_sighsAs_78 (q := 81) rfl (ct_X8_starts (b := 51) hk hV) ?_
    intro τ1 hz
    obtain ⟨_, hV1, hF1⟩ := hz
    refine j_aload_n dX8_sighsAs_81 (q := 82) rfl rfl ?_
    refine j_iconst (v := 4) dX8_sighsAs_82 (q := 83) rfl (by decide) ?_
    refine j_callSi1E (M' := M_X8_above) lk_X8_172 ms_X8_above (by omega) (Nat.le_of_ble_eq_true rfl) dX8_sighsAs_83 (q := 86) rfl (ct_X8_aboveN (a := 4) (by decide)) ?_
    refine j_iload_n dX8_sighsAs_86 (q := 87) rfl rfl ?_
    refine j_callVi2 (M' := M_X8_sighsAs) lk_X8_242 mv_X8_sighsAs ob_70 (by omega) (Nat.le_of_ble_eq_true rfl) dX8_sighsAs_87 (q := 90) rfl (ct_sg_1 (n := n) (d := 8) (by decide) hK hk hV1) ?_
    intro x2 τ2 hz
    rw [hA] at hz
    obtain ⟨z2, hV2, hF2⟩ := hz
    cases z2
    refine j_aload_n dX8_sighsAs_90 (q := 91) rfl rfl ?_
    refine j_getIV fs_X8_223 rfl rfl hV2.2.2.2.2.1 dX8_sighsAs_91 (q := 94) rfl ?_
    refine j_ixor dX8_sighsAs_94 (q := 95) rfl ?_
    refine j_ireti dX8_sighsAs_95 rfl ?_
    exact ⟨rfl, hV2, hF2.tr hF1⟩
  · skip
    exact absurd rfl e_1_4
theorem sg_any {g : GT} {σ : S_} {n a : Nat} {x : Int32} {K k : Nat} {m : Int32} {T : VT} (ha : a < 7) (hK : K < 7) (hk : k < 7) (hV : VJ K k m σ T) : CT g 9 M_X8_sighsAs [.ref 70, .int (nI a), .int x] σ (VY K k m σ (vS K k m (n + 8) 2 a x T)) := by
  rcases (show a = 0 ∨ a = 1 ∨ a = 2 ∨ a = 3 ∨ a = 4 ∨ a = 5 ∨ a = 6 by omega) with rfl | rfl | rfl | rfl | rfl | rfl | rfl
  · exact ct_sg_0 (n := n + 1) (by decide) hK hk hV
  · exact ct_sg_1 (n := n + 1) (by decide) hK hk hV
  · exact ct_sg_2 (n := n + 1) (by decide) hK hk hV
  · exact ct_sg_3 (n := n + 0) (by decide) hK hk hV
  · exact ct_sg_4 (n := n + 0) (by decide) hK hk hV
  · exact ct_sg_5 (n := n + 1) (by decide) hK hk hV
  · exact ct_sg_6 (n := n + 1) (by decide) hK hk hV
theorem ct_pt_0 {g : GT} {σ : S_} {d n : Nat} (hd : 2 ≤ d) {x : Int32} {K k : Nat} {m : Int32} {T : VT} (hK : K < 7) (hk : k < 7) (hV : VJ K k m σ T) (hp : T.2.2 = 0) : CT g d M_X8_partsAs [.ref 70, .int 0, .int x] σ (VY K k m σ (vS K k m (n + 1) 3 0 x T)) := by
  rw [show vS K k m (n + 1) 3 0 x T = (if m - nI k = 0 then (0, ((stT 13 T).1, (stT 13 T).2.1, 1)) else (x / (m - nI k), (stT 13 T))) from (vS_at (n := n + 0) (b := 13) (c := 0) (by decide) (by decide)).trans vB_13]
  obtain ⟨v1, v2, v3, v4, v5, v6, v7⟩ := id hV
  refine ct_of [.ref 70, .int 0, .int x, .null, .null] pn_X8_partsAs rfl (Nat.le_of_ble_eq_true rfl) ?_
  refine j_iload_n dX8_partsAs_0 (q := 1) rfl rfl ?_
  refine j_lsw_0_1 dX8_partsAs_1 (td := 120) (t0 := 28) (t1 := 79) (by decide) (by decide) (by decide) (fun e_1 => ?_) (fun e_1 => ?_) (fun e_1_0 e_1_1 => ?_)
  · skip
    refine j_aload_n dX8_partsAs_28 (q := 29) rfl rfl ?_
    refine j_bipush (v := 13) dX8_partsAs_29 (q := 31) rfl (by decide) ?_
    refine j_callVv1 (M' := M_X8_starts) lk_X8_226 mv_X8_starts ob_70 (by omega) (Nat.le_of_ble_eq_true rfl) dX8_partsAs_31 (q := 34) rfl (ct_X8_starts (b := 13) hk hV) ?_
    intro τ1 hz
    obtain ⟨_, hV1, hF1⟩ := hz
    refine j_aload_n dX8_partsAs_34 (q := 35) rfl rfl ?_
    refine j_callVi0E (M' := M_X8_mNow) lk_X8_239 mv_X8_mNow ob_70 (by omega) (Nat.le_of_ble_eq_true rfl) dX8_partsAs_35 (q := 38) rfl (ct_X8_mNow hk hV1) ?_
    refine j_aload_n dX8_partsAs_38 (q := 39) rfl rfl ?_
    refine j_getIV fs_X8_223 rfl rfl hV1.2.2.2.2.1 dX8_partsAs_39 (q := 42) rfl ?_
    refine j_isub dX8_partsAs_42 (q := 43) rfl ?_
    refine j_istore_n_5_3 dX8_partsAs_43 (q := 44) rfl rfl rfl ?_
    refine j_aload_n dX8_partsAs_44 (q := 45) rfl rfl ?_
    refine j_iload_n dX8_partsAs_45 (q := 46) rfl rfl ?_
    refine j_if_ne dX8_partsAs_46 (t := 53) (by decide) (q := 49) rfl (fun c_46 => ?_) (fun c_46 => ?_)
    · skip
      refine j_iconst (v := 0) dX8_partsAs_53 (q := 54) rfl (by decide) ?_
      refine j_putZ fs_X8_245 rfl rfl fp_8_20 (by decide) dX8_partsAs_54 (q := 57) rfl ?_
      refine j_iload_n dX8_partsAs_57 (q := 58) rfl rfl ?_
      refine j_if_ne dX8_partsAs_58 (t := 65) (by decide) (q := 61) rfl (fun c_58 => ?_) (fun c_58 => ?_)
      · skip
        refine j_iload_n dX8_partsAs_65 (q := 66) rfl rfl ?_
        refine j_iconst (v := (-1)) dX8_partsAs_66 (q := 67) rfl (by decide) ?_
        refine j_icmp_ne dX8_partsAs_67 (t := 75) (by decide) (q := 70) rfl (fun c_67 => ?_) (fun c_67 => ?_)
        · skip
          refine j_iload_n dX8_partsAs_75 (q := 76) rfl rfl ?_
          refine j_iload_n dX8_partsAs_76 (q := 77) rfl rfl ?_
          refine j_idiv dX8_partsAs_77 (q := 78) rfl c_46 ?_
          refine j_ireti dX8_partsAs_78 rfl ?_
          have hp1 : (stT 13 T).2.2 = 0 := stT_p.trans hp
          obtain ⟨a1, a2, a3, a4, a5, a6, a7⟩ := hV1
          rw [if_neg c_46]
          refine ⟨?_, ⟨(up_nk (by decide)).trans a1, a2, up_at.trans hp1.symm, fun j hj => (up_nc (by decide)).trans (a4 j hj), (up_nk (by decide)).trans a5, (up_nc (by decide)).trans a6, (up_nc (by decide)).trans a7⟩, ⟨fun y y1 y2 => (up_row y1).trans (hF1.1 y y1 y2), (up_nk (by decide)).trans hF1.2⟩⟩
          rfl
        · skip
          refine j_iload_n dX8_partsAs_70 (q := 71) rfl rfl ?_
          refine j_ineg dX8_partsAs_71 (q := 72) rfl ?_
          refine j_goto (q := 78) dX8_partsAs_72 (by decide) ?_
          refine j_ireti dX8_partsAs_78 rfl ?_
          have hp1 : (stT 13 T).2.2 = 0 := stT_p.trans hp
          obtain ⟨a1, a2, a3, a4, a5, a6, a7⟩ := hV1
          rw [if_neg c_46]
          refine ⟨?_, ⟨(up_nk (by decide)).trans a1, a2, up_at.trans hp1.symm, fun j hj => (up_nc (by decide)).trans (a4 j hj), (up_nk (by decide)).trans a5, (up_nc (by decide)).trans a6, (up_nc (by decide)).trans a7⟩, ⟨fun y y1 y2 => (up_row y1).trans (hF1.1 y y1 y2), (up_nk (by decide)).trans hF1.2⟩⟩
          exact congrArg Value.int (by rw [c_67]; exact (div_m1 x).symm)
      · skip
        exact absurd c_58 c_46
    · skip
      refine j_iconst (v := 1) dX8_partsAs_49 (q := 50) rfl (by decide) ?_
      refine j_goto (q := 54) dX8_partsAs_50 (by decide) ?_
      refine j_putZ fs_X8_245 rfl rfl fp_8_20 (by decide) dX8_partsAs_54 (q := 57) rfl ?_
      refine j_iload_n dX8_partsAs_57 (q := 58) rfl rfl ?_
      refine j_if_ne dX8_partsAs_58 (t := 65) (by decide) (q := 61) rfl (fun c_58 => ?_) (fun c_58 => ?_)
      · skip
        exact absurd c_46 c_58
      · skip
        refine j_iconst (v := 0) dX8_partsAs_61 (q := 62) rfl (by decide) ?_
        refine j_goto (q := 78) dX8_partsAs_62 (by decide) ?_
        refine j_ireti dX8_partsAs_78 rfl ?_
        have hp1 : (stT 13 T).2.2 = 0 := stT_p.trans hp
        obtain ⟨a1, a2, a3, a4, a5, a6, a7⟩ := hV1
        rw [if_pos c_46]
        exact ⟨rfl, ⟨(up_nk (by decide)).trans a1, a2, up_at, fun j hj => (up_nc (by decide)).trans (a4 j hj), (up_nk (by decide)).trans a5, (up_nc (by decide)).trans a6, (up_nc (by decide)).trans a7⟩, ⟨fun y y1 y2 => (up_row y1).trans (hF1.1 y y1 y2), (up_nk (by decide)).trans hF1.2⟩⟩
  · skip
    exact absurd e_1 (by decide)
  · skip
    exact absurd rfl e_1_0
theorem ct_pt_1 {g : GT} {σ : S_} {d n : Nat} (hd : 7 ≤ d) {x : Int32} {K k : Nat} {m : Int32} {T : VT} (hK : K < 7) (hk : k < 7) (hV : VJ K k m σ T) (hp : T.2.2 = 0) : CT g d M_X8_partsAs [.ref 70, .int 1, .int x] σ (VY K k m σ (vS K k m (n + 7) 3 1 x T)) := by
  rw [show vS K k m (n + 7) 3 1 x T = (if (vS K k m (n + 6) 3 0 x (stT 21 T)).2.2.2 = 0 then ((vS K k m (n + 6) 3 0 x (stT 21 T)).1 + (vS K k m (n + 6) 1 K 1 (vS K k m (n + 6) 3 0 x (stT 21 T)).2).1, (vS K k m (n + 6) 1 K 1 (vS K k m (n + 6) 3 0 x (stT 21 T)).2).2) else (0, (vS K k m (n + 6) 3 0 x (stT 21 T)).2)) from (vS_at (n := n + 6) (b := 21) (c := 0) (by decide) (by decide)).trans vB_21]
  generalize hA : vS K k m (n + 6) 3 0 x (stT 21 T) = A
  obtain ⟨v1, v2, v3, v4, v5, v6, v7⟩ := id hV
  refine ct_of [.ref 70, .int 1, .int x, .null, .null] pn_X8_partsAs rfl (Nat.le_of_ble_eq_true rfl) ?_
  refine j_iload_n dX8_partsAs_0 (q := 1) rfl rfl ?_
  refine j_lsw_0_1 dX8_partsAs_1 (td := 120) (t0 := 28) (t1 := 79) (by decide) (by decide) (by decide) (fun e_1 => ?_) (fun e_1 => ?_) (fun e_1_0 e_1_1 => ?_)
  · skip
    exact absurd e_1 (by decide)
  · skip
    generalize hB : vS K k m (n + 6) 1 K 1 A.2 = B
    refine j_aload_n dX8_partsAs_79 (q := 80) rfl rfl ?_
    refine j_bipush (v := 21) dX8_partsAs_80 (q := 82) rfl (by decide) ?_
    refine j_callVv1 (M' := M_X8_starts) lk_X8_226 mv_X8_starts ob_70 (by omega) (Nat.le_of_ble_eq_true rfl) dX8_partsAs_82 (q := 85) rfl (ct_X8_starts (b := 21) hk hV) ?_
    intro τ1 hz
    obtain ⟨_, hV1, hF1⟩ := hz
    refine j_aload_n dX8_partsAs_85 (q := 86) rfl rfl ?_
    refine j_iconst (v := 1) dX8_partsAs_86 (q := 87) rfl (by decide) ?_
    refine j_callSi1E (M' := M_X8_above) lk_X8_172 ms_X8_above (by omega) (Nat.le_of_ble_eq_true rfl) dX8_partsAs_87 (q := 90) rfl (ct_X8_aboveN (a := 1) (by decide)) ?_
    refine j_iload_n dX8_partsAs_90 (q := 91) rfl rfl ?_
    refine j_callVi2 (M' := M_X8_partsAs) lk_X8_249 mv_X8_partsAs ob_70 (by omega) (Nat.le_of_ble_eq_true rfl) dX8_partsAs_91 (q := 94) rfl (ct_pt_0 (n := n + 5) (d := 2) (by decide) hK hk hV1 (stT_p.trans hp)) ?_
    intro x2 τ2 hz
    rw [show vS K k m (n + 5 + 1) 3 0 x (stT 21 T) = A from hA] at hz
    obtain ⟨z2, hV2, hF2⟩ := hz
    cases z2
    refine j_istore_5_4 dX8_partsAs_94 (q := 96) rfl rfl rfl ?_
    refine j_aload_n dX8_partsAs_96 (q := 97) rfl rfl ?_
    refine j_getIV fs_X8_245 rfl rfl hV2.2.2.1 dX8_partsAs_97 (q := 100) rfl ?_
    refine j_if_eq dX8_partsAs_100 (t := 107) (by decide) (q := 103) rfl (fun c_100 => ?_) (fun c_100 => ?_)
    · skip
      refine j_iload dX8_partsAs_107 (q := 109) rfl rfl ?_
      refine j_aload_n dX8_partsAs_109 (q := 110) rfl rfl ?_
      refine j_aload_n dX8_partsAs_110 (q := 111) rfl rfl ?_
      refine j_callVi0E (M' := M_X8_kindNow) lk_X8_233 mv_X8_kindNow ob_70 (by omega) (Nat.le_of_ble_eq_true rfl) dX8_partsAs_111 (q := 114) rfl (ct_X8_kindNow hk hV2) ?_
      refine j_iconst (v := 1) dX8_partsAs_114 (q := 115) rfl (by decide) ?_
      refine j_callVi2 (M' := M_X8_sipsAs) lk_X8_236 mv_X8_sipsAs ob_70 (by omega) (Nat.le_of_ble_eq_true rfl) dX8_partsAs_115 (q := 118) rfl (si_any (n := n) hK hK hk hV2) ?_
      intro x3 τ3 hz
      rw [hB] at hz
      obtain ⟨z3, hV3, hF3⟩ := hz
      cases z3
      refine j_iadd dX8_partsAs_118 (q := 119) rfl ?_
      refine j_ireti dX8_partsAs_119 rfl ?_
      rw [if_pos c_100]
      exact ⟨rfl, hV3, (hF3.tr hF2).tr hF1⟩
    · skip
      refine j_iconst (v := 0) dX8_partsAs_103 (q := 104) rfl (by decide) ?_
      refine j_goto (q := 119) dX8_partsAs_104 (by decide) ?_
      refine j_ireti dX8_partsAs_119 rfl ?_
      rw [if_neg c_100]
      exact ⟨rfl, hV2, hF2.tr hF1⟩
  · skip
    exact absurd rfl e_1_1
theorem ct_pt_2 {g : GT} {σ : S_} {d n : Nat} (hd : 3 ≤ d) {x : Int32} {K k : Nat} {m : Int32} {T : VT} (hK : K < 7) (hk : k < 7) (hV : VJ K k m σ T) (hp : T.2.2 = 0) : CT g d M_X8_partsAs [.ref 70, .int 2, .int x] σ (VY K k m σ (vS K k m (n + 1) 3 2 x T)) := by
  rw [show vS K k m (n + 1) 3 2 x T = vS K k m (n + 1) 3 0 x T from vS_eq (n := n + 0) (by decide)]
  generalize hA : vS K k m (n + 1) 3 0 x T = A
  obtain ⟨v1, v2, v3, v4, v5, v6, v7⟩ := id hV
  refine ct_of [.ref 70, .int 2, .int x, .null, .null] pn_X8_partsAs rfl (Nat.le_of_ble_eq_true rfl) ?_
  refine j_iload_n dX8_partsAs_0 (q := 1) rfl rfl ?_
  refine j_lsw_0_1 dX8_partsAs_1 (td := 120) (t0 := 28) (t1 := 79) (by decide) (by decide) (by decide) (fun e_1 => ?_) (fun e_1 => ?_) (fun e_1_0 e_1_1 => ?_)
  · skip
    exact absurd e_1 (by decide)
  · skip
    exact absurd e_1 (by decide)
  · skip
    refine j_aload_n dX8_partsAs_120 (q := 121) rfl rfl ?_
    refine j_iload_n dX8_partsAs_121 (q := 122) rfl rfl ?_
    refine j_callSi1E (M' := M_X8_above) lk_X8_172 ms_X8_above (by omega) (Nat.le_of_ble_eq_true rfl) dX8_partsAs_122 (q := 125) rfl (ct_X8_aboveN (a := 2) (by decide)) ?_
    refine j_iload_n dX8_partsAs_125 (q := 126) rfl rfl ?_
    refine j_callVi2 (M' := M_X8_partsAs) lk_X8_249 mv_X8_partsAs ob_70 (by omega) (Nat.le_of_ble_eq_true rfl) dX8_partsAs_126 (q := 129) rfl (ct_pt_0 (n := n) (d := 2) (by decide) hK hk hV hp) ?_
    intro x2 τ2 hz
    rw [hA] at hz
    obtain ⟨z2, hV2, hF2⟩ := hz
    cases z2
    refine j_ireti dX8_partsAs_129 rfl ?_
    exact ⟨rfl, hV2, hF2⟩
theorem ct_pt_3 {g : GT} {σ : S_} {d n : Nat} (hd : 3 ≤ d) {x : Int32} {K k : Nat} {m : Int32} {T : VT} (hK : K < 7) (hk : k < 7) (hV : VJ K k m σ T) (hp : T.2.2 = 0) : CT g d M_X8_partsAs [.ref 70, .int 3, .int x] σ (VY K k m σ (vS K k m (n + 1) 3 3 x T)) := by
  rw [show vS K k m (n + 1) 3 3 x T = vS K k m (n + 1) 3 0 x T from vS_eq (n := n + 0) (by decide)]
  generalize hA : vS K k m (n + 1) 3 0 x T = A
  obtain ⟨v1, v2, v3, v4, v5, v6, v7⟩ := id hV
  refine ct_of [.ref 70, .int 3, .int x, .null, .null] pn_X8_partsAs rfl (Nat.le_of_ble_eq_true rfl) ?_
  refine j_iload_n dX8_partsAs_0 (q := 1) rfl rfl ?_
  refine j_lsw_0_1 dX8_partsAs_1 (td := 120) (t0 := 28) (t1 := 79) (by decide) (by decide) (by decide) (fun e_1 => ?_) (fun e_1 => ?_) (fun e_1_0 e_1_1 => ?_)
  · skip
    exact absurd e_1 (by decide)
  · skip
    exact absurd e_1 (by decide)
  · skip
    refine j_aload_n dX8_partsAs_120 (q := 121) rfl rfl ?_
    refine j_iload_n dX8_partsAs_121 (q := 122) rfl rfl ?_
    refine j_callSi1E (M' := M_X8_above) lk_X8_172 ms_X8_above (by omega) (Nat.le_of_ble_eq_true rfl) dX8_partsAs_122 (q := 125) rfl (ct_X8_aboveN (a := 3) (by decide)) ?_
    refine j_iload_n dX8_partsAs_125 (q := 126) rfl rfl ?_
    refine j_callVi2 (M' := M_X8_partsAs) lk_X8_249 mv_X8_partsAs ob_70 (by omega) (Nat.le_of_ble_eq_true rfl) dX8_partsAs_126 (q := 129) rfl (ct_pt_0 (n := n) (d := 2) (by decide) hK hk hV hp) ?_
    intro x2 τ2 hz
    rw [hA] at hz
    obtain ⟨z2, hV2, hF2⟩ := hz
    cases z2
    refine j_ireti dX8_partsAs_129 rfl ?_
    exact ⟨rfl, hV2, hF2⟩
theorem ct_pt_6 {g : GT} {σ : S_} {d n : Nat} (hd : 3 ≤ d) {x : Int32} {K k : Nat} {m : Int32} {T : VT} (hK : K < 7) (hk : k < 7) (hV : VJ K k m σ T) (hp : T.2.2 = 0) : CT g d M_X8_partsAs [.ref 70, .int 6, .int x] σ (VY K k m σ (vS K k m (n + 1) 3 6 x T)) := by
  rw [show vS K k m (n + 1) 3 6 x T = vS K k m (n + 1) 3 0 x T from vS_eq (n := n + 0) (by decide)]
  generalize hA : vS K k m (n + 1) 3 0 x T = A
  obtain ⟨v1, v2, v3, v4, v5, v6, v7⟩ := id hV
  refine ct_of [.ref 70, .int 6, .int x, .null, .null] pn_X8_partsAs rfl (Nat.le_of_ble_eq_true rfl) ?_
  refine j_iload_n dX8_partsAs_0 (q := 1) rfl rfl ?_
  refine j_lsw_0_1 dX8_partsAs_1 (td := 120) (t0 := 28) (t1 := 79) (by decide) (by decide) (by decide) (fun e_1 => ?_) (fun e_1 => ?_) (fun e_1_0 e_1_1 => ?_)
  · skip
    exact absurd e_1 (by decide)
  · skip
    exact absurd e_1 (by decide)
  · skip
    refine j_aload_n dX8_partsAs_120 (q := 121) rfl rfl ?_
    refine j_iload_n dX8_partsAs_121 (q := 122) rfl rfl ?_
    refine j_callSi1E (M' := M_X8_above) lk_X8_172 ms_X8_above (by omega) (Nat.le_of_ble_eq_true rfl) dX8_partsAs_122 (q := 125) rfl (ct_X8_aboveN (a := 6) (by decide)) ?_
    refine j_iload_n dX8_partsAs_125 (q := 126) rfl rfl ?_
    refine j_callVi2 (M' := M_X8_partsAs) lk_X8_249 mv_X8_partsAs ob_70 (by omega) (Nat.le_of_ble_eq_true rfl) dX8_partsAs_126 (q := 129) rfl (ct_pt_0 (n := n) (d := 2) (by decide) hK hk hV hp) ?_
    intro x2 τ2 hz
    rw [hA] at hz
    obtain ⟨z2, hV2, hF2⟩ := hz
    cases z2
    refine j_ireti dX8_partsAs_129 rfl ?_
    exact ⟨rfl, hV2, hF2⟩
theorem ct_pt_4 {g : GT} {σ : S_} {d n : Nat} (hd : 8 ≤ d) {x : Int32} {K k : Nat} {m : Int32} {T : VT} (hK : K < 7) (hk : k < 7) (hV : VJ K k m σ T) (hp : T.2.2 = 0) : CT g d M_X8_partsAs [.ref 70, .int 4, .int x] σ (VY K k m σ (vS K k m (n + 7) 3 4 x T)) := by
  rw [show vS K k m (n + 7) 3 4 x T = vS K k m (n + 7) 3 1 x T from vS_eq (n := n + 6) (by decide)]
  generalize hA : vS K k m (n + 7) 3 1 x T = A
  obtain ⟨v1, v2, v3, v4, v5, v6, v7⟩ := id hV
  refine ct_of [.ref 70, .int 4, .int x, .null, .null] pn_X8_partsAs rfl (Nat.le_of_ble_eq_true rfl) ?_
  refine j_iload_n dX8_partsAs_0 (q := 1) rfl rfl ?_
  refine j_lsw_0_1 dX8_partsAs_1 (td := 120) (t0 := 28) (t1 := 79) (by decide) (by decide) (by decide) (fun e_1 => ?_) (fun e_1 => ?_) (fun e_1_0 e_1_1 => ?_)
  · skip
    exact absurd e_1 (by decide)
  · skip
    exact absurd e_1 (by decide)
  · skip
    refine j_aload_n dX8_partsAs_120 (q := 121) rfl rfl ?_
    refine j_iload_n dX8_partsAs_121 (q := 122) rfl rfl ?_
    refine j_callSi1E (M' := M_X8_above) lk_X8_172 ms_X8_above (by omega) (Nat.le_of_ble_eq_true rfl) dX8_partsAs_122 (q := 125) rfl (ct_X8_aboveN (a := 4) (by decide)) ?_
    refine j_iload_n dX8_partsAs_125 (q := 126) rfl rfl ?_
    refine j_callVi2 (M' := M_X8_partsAs) lk_X8_249 mv_X8_partsAs ob_70 (by omega) (Nat.le_of_ble_eq_true rfl) dX8_partsAs_126 (q := 129) rfl (ct_pt_1 (n := n) (d := 7) (by decide) hK hk hV hp) ?_
    intro x2 τ2 hz
    rw [hA] at hz
    obtain ⟨z2, hV2, hF2⟩ := hz
    cases z2
    refine j_ireti dX8_partsAs_129 rfl ?_
    exact ⟨rfl, hV2, hF2⟩
theorem ct_pt_5 {g : GT} {σ : S_} {d n : Nat} (hd : 4 ≤ d) {x : Int32} {K k : Nat} {m : Int32} {T : VT} (hK : K < 7) (hk : k < 7) (hV : VJ K k m σ T) (hp : T.2.2 = 0) : CT g d M_X8_partsAs [.ref 70, .int 5, .int x] σ (VY K k m σ (vS K k m (n + 1) 3 5 x T)) := by
  rw [show vS K k m (n + 1) 3 5 x T = vS K k m (n + 1) 3 2 x T from vS_eq (n := n + 0) (by decide)]
  generalize hA : vS K k m (n + 1) 3 2 x T = A
  obtain ⟨v1, v2, v3, v4, v5, v6, v7⟩ := id hV
  refine ct_of [.ref 70, .int 5, .int x, .null, .null] pn_X8_partsAs rfl (Nat.le_of_ble_eq_true rfl) ?_
  refine j_iload_n dX8_partsAs_0 (q := 1) rfl rfl ?_
  refine j_lsw_0_1 dX8_partsAs_1 (td := 120) (t0 := 28) (t1 := 79) (by decide) (by decide) (by decide) (fun e_1 => ?_) (fun e_1 => ?_) (fun e_1_0 e_1_1 => ?_)
  · skip
    exact absurd e_1 (by decide)
  · skip
    exact absurd e_1 (by decide)
  · skip
    refine j_aload_n dX8_partsAs_120 (q := 121) rfl rfl ?_
    refine j_iload_n dX8_partsAs_121 (q := 122) rfl rfl ?_
    refine j_callSi1E (M' := M_X8_above) lk_X8_172 ms_X8_above (by omega) (Nat.le_of_ble_eq_true rfl) dX8_partsAs_122 (q := 125) rfl (ct_X8_aboveN (a := 5) (by decide)) ?_
    refine j_iload_n dX8_partsAs_125 (q := 126) rfl rfl ?_
    refine j_callVi2 (M' := M_X8_partsAs) lk_X8_249 mv_X8_partsAs ob_70 (by omega) (Nat.le_of_ble_eq_true rfl) dX8_partsAs_126 (q := 129) rfl (ct_pt_2 (n := n) (d := 3) (by decide) hK hk hV hp) ?_
    intro x2 τ2 hz
    rw [hA] at hz
    obtain ⟨z2, hV2, hF2⟩ := hz
    cases z2
    refine j_ireti dX8_partsAs_129 rfl ?_
    exact ⟨rfl, hV2, hF2⟩
theorem pt_any {g : GT} {σ : S_} {n a : Nat} {x : Int32} {K k : Nat} {m : Int32} {T : VT} (ha : a < 7) (hK : K < 7) (hk : k < 7) (hV : VJ K k m σ T) (hp : T.2.2 = 0) : CT g 8 M_X8_partsAs [.ref 70, .int (nI a), .int x] σ (VY K k m σ (vS K k m (n + 7) 3 a x T)) := by
  rcases (show a = 0 ∨ a = 1 ∨ a = 2 ∨ a = 3 ∨ a = 4 ∨ a = 5 ∨ a = 6 by omega) with rfl | rfl | rfl | rfl | rfl | rfl | rfl
  · exact ct_pt_0 (n := n + 6) (by decide) hK hk hV hp
  · exact ct_pt_1 (n := n + 0) (by decide) hK hk hV hp
  · exact ct_pt_2 (n := n + 6) (by decide) hK hk hV hp
  · exact ct_pt_3 (n := n + 6) (by decide) hK hk hV hp
  · exact ct_pt_4 (n := n + 0) (by decide) hK hk hV hp
  · exact ct_pt_5 (n := n + 6) (by decide) hK hk hV hp
  · exact ct_pt_6 (n := n + 6) (by decide) hK hk hV hp
theorem ct_X8_voice_no {g : GT} {σ : S_} {f v x : Int32} (h : ¬ ((0 ≤ f ∧ f ≤ σ 71 5 - 1) ∧ (0 ≤ v ∧ v ≤ 3))) : CT g 10 M_X8_voice [.ref 70, .int f, .int v, .int x] σ (EQ (.int (-1000000001)) (rfm σ 1)) := by
  refine ct_of [.ref 70, .int f, .int v, .int x, .null, .null] pn_X8_voice rfl (Nat.le_of_ble_eq_true rfl) ?_
  refine j_aload_n dX8_voice_0 (q := 1) rfl rfl ?_
  refine j_iload_n dX8_voice_1 (q := 2) rfl rfl ?_
  refine j_callVi1E (M' := M_X8_isFarm) lk_X8_166 mv_X8_isFarm ob_70 (by decide) (Nat.le_of_ble_eq_true rfl) dX8_voice_2 (q := 5) rfl (ct_X8_isFarm) ?_
  refine j_ifeqB dX8_voice_5 (t := 17) (by decide) (q := 8) rfl (fun c_5 => ?_) (fun c_5 => ?_)
  · skip
    refine j_iload_n dX8_voice_8 (q := 9) rfl rfl ?_
    refine j_iconst (v := 0) dX8_voice_9 (q := 10) rfl (by decide) ?_
    refine j_iconst (v := 3) dX8_voice_10 (q := 11) rfl (by decide) ?_
    refine j_callSi3E (M' := M_X8_in) lk_X8_59 ms_X8_in (by decide) (Nat.le_of_ble_eq_true rfl) dX8_voice_11 (q := 14) rfl (ct_X8_in) ?_
    refine j_ifneB dX8_voice_14 (t := 23) (by decide) (q := 17) rfl (fun c_14 => ?_) (fun c_14 => ?_)
    · skip
      exact absurd ⟨c_5, c_14⟩ h
    · skip
      refine j_aload_n dX8_voice_17 (q := 18) rfl rfl ?_
      refine j_iconst (v := 1) dX8_voice_18 (q := 19) rfl (by decide) ?_
      refine j_callVi1E (M' := M_X8_error) lk_X8_63 mv_X8_error ob_70 (by decide) (Nat.le_of_ble_eq_true rfl) dX8_voice_19 (q := 22) rfl (ct_err1) ?_
      refine j_ireti dX8_voice_22 rfl ?_
      exact ⟨rfl, rfl⟩
  · skip
    refine j_aload_n dX8_voice_17 (q := 18) rfl rfl ?_
    refine j_iconst (v := 1) dX8_voice_18 (q := 19) rfl (by decide) ?_
    refine j_callVi1E (M' := M_X8_error) lk_X8_63 mv_X8_error ob_70 (by decide) (Nat.le_of_ble_eq_true rfl) dX8_voice_19 (q := 22) rfl (ct_err1) ?_
    refine j_ireti dX8_voice_22 rfl ?_
    exact ⟨rfl, rfl⟩
theorem ct_X8_voice0_ok {g : GT} {σ : S_} {k nf K : Nat} {m x : Int32} (hn : k < nf) (h7 : nf ≤ 7) (e : σ 71 5 = nI nf) (hK : K < 7) (e1 : σ 71 (10 + 6 * k + 1) = m) (e0 : σ 71 (10 + 6 * k) = nI K) (hp : (vS K k m 21 0 K x (vT0 (σ 82))).2.2.2 = 0) : CT g 10 M_X8_voice [.ref 70, .int (nI k), .int (nI 0), .int x] σ (VY K k m σ (vS K k m 21 0 K x (vT0 (σ 82)))) := by
  generalize hA : vS K k m 21 0 K x (vT0 (σ 82)) = A at hp ⊢
  refine ct_of [.ref 70, .int (nI k), .int (nI 0), .int x, .null, .null] pn_X8_voice rfl (Nat.le_of_ble_eq_true rfl) ?_
  refine j_aload_n dX8_voice_0 (q := 1) rfl rfl ?_
  refine j_iload_n dX8_voice_1 (q := 2) rfl rfl ?_
  refine j_callVi1E (M' := M_X8_isFarm) lk_X8_166 mv_X8_isFarm ob_70 (by decide) (Nat.le_of_ble_eq_true rfl) dX8_voice_2 (q := 5) rfl (ct_X8_isFarm) ?_
  refine j_ifeqB dX8_voice_5 (t := 17) (by decide) (q := 8) rfl (fun c_5 => ?_) (fun c_5 => ?_)
  · skip
    refine j_iload_n dX8_voice_8 (q := 9) rfl rfl ?_
    refine j_iconst (v := 0) dX8_voice_9 (q := 10) rfl (by decide) ?_
    refine j_iconst (v := 3) dX8_voice_10 (q := 11) rfl (by decide) ?_
    refine j_callSi3E (M' := M_X8_in) lk_X8_59 ms_X8_in (by decide) (Nat.le_of_ble_eq_true rfl) dX8_voice_11 (q := 14) rfl (ct_X8_in) ?_
    refine j_ifneB dX8_voice_14 (t := 23) (by decide) (q := 17) rfl (fun c_14 => ?_) (fun c_14 => ?_)
    · skip
      refine j_aload_n dX8_voice_23 (q := 24) rfl rfl ?_
      refine j_iconst (v := 0) dX8_voice_24 (q := 25) rfl (by decide) ?_
      refine j_putI fs_X8_220 rfl rfl fp_8_17 dX8_voice_25 (q := 28) rfl ?_
      refine j_aload_n dX8_voice_28 (q := 29) rfl rfl ?_
      refine j_iload_n dX8_voice_29 (q := 30) rfl rfl ?_
      refine j_putI fs_X8_223 rfl rfl fp_8_19 dX8_voice_30 (q := 33) rfl ?_
      refine j_aload_n dX8_voice_33 (q := 34) rfl rfl ?_
      refine j_iconst (v := 0) dX8_voice_34 (q := 35) rfl (by decide) ?_
      refine j_putZ fs_X8_245 rfl rfl fp_8_20 (by decide) dX8_voice_35 (q := 38) rfl ?_
      have hk : k < 7 := by omega
      have hV0 : VJ K k m (up (up (up σ 70 17 0) 70 19 (nI k)) 70 20 0) (vT0 (σ 82)) := ⟨(up_nk (by decide)).trans ((up_nk (by decide)).trans up_at), Nat.zero_le _, up_at, fun j _ => (up_nc (by decide)).trans ((up_nc (by decide)).trans (up_nc (by decide))), (up_nk (by decide)).trans up_at, (up_nc (by decide)).trans ((up_nc (by decide)).trans ((up_nc (by decide)).trans e1)), (up_nc (by decide)).trans ((up_nc (by decide)).trans ((up_nc (by decide)).trans e0))⟩
      have hF0 : VF σ (up (up (up σ 70 17 0) 70 19 (nI k)) 70 20 0) := ⟨fun y y1 _ => (up_row y1).trans ((up_row y1).trans (up_row y1)), (up_nk (by decide)).trans ((up_nk (by decide)).trans (up_nk (by decide)))⟩
      refine j_aload_n dX8_voice_38 (q := 39) rfl rfl ?_
      refine j_callVi0E (M' := M_X8_kindNow) lk_X8_233 mv_X8_kindNow ob_70 (by omega) (Nat.le_of_ble_eq_true rfl) dX8_voice_39 (q := 42) rfl (ct_X8_kindNow hk hV0) ?_
      refine j_istore_6_4 dX8_voice_42 (q := 44) rfl rfl rfl ?_
      refine j_iload_n dX8_voice_44 (q := 45) rfl rfl ?_
      refine j_if_ne dX8_voice_45 (t := 58) (by decide) (q := 48) rfl (fun c_45 => ?_) (fun c_45 => ?_)
      · skip
        exact absurd c_45 (by decide)
      · skip
        refine j_aload_n dX8_voice_48 (q := 49) rfl rfl ?_
        refine j_iload dX8_voice_49 (q := 51) rfl rfl ?_
        refine j_iload_n dX8_voice_51 (q := 52) rfl rfl ?_
        refine j_callVi2 (M' := M_X8_gulpsAs) lk_X8_230 mv_X8_gulpsAs ob_70 (by omega) (Nat.le_of_ble_eq_true rfl) dX8_voice_52 (q := 55) rfl (gu_any (n := 18) hK hK hk hV0) ?_
        intro x1 τ1 hz
        rw [show vS K k m (18 + 3) 0 K x (vT0 (σ 82)) = A from hA] at hz
        obtain ⟨z1, hV1, hF1⟩ := hz
        cases z1
        refine j_goto (q := 95) dX8_voice_55 (by decide) ?_
        refine j_istore_6_5 dX8_voice_95 (q := 97) rfl rfl rfl ?_
        refine j_aload_n dX8_voice_97 (q := 98) rfl rfl ?_
        refine j_getIV fs_X8_245 rfl rfl hV1.2.2.1 dX8_voice_98 (q := 101) rfl ?_
        refine j_if_eq dX8_voice_101 (t := 113) (by decide) (q := 104) rfl (fun c_101 => ?_) (fun c_101 => ?_)
        · skip
          refine j_iload dX8_voice_113 (q := 115) rfl rfl ?_
          refine j_ireti dX8_voice_115 rfl ?_
          exact ⟨rfl, hV1, hF1.tr hF0⟩
        · skip
          exact absurd hp c_101
    · skip
      exact absurd (inK (b := 3) (by omega) (by decide)) c_14
  · skip
    exact absurd (inF hn h7 e) c_5
theorem ct_X8_voice0_par {g : GT} {σ : S_} {k nf K : Nat} {m x : Int32} (hn : k < nf) (h7 : nf ≤ 7) (e : σ 71 5 = nI nf) (hK : K < 7) (e1 : σ 71 (10 + 6 * k + 1) = m) (e0 : σ 71 (10 + 6 * k) = nI K) (hp : ¬ (vS K k m 21 0 K x (vT0 (σ 82))).2.2.2 = 0) : CT g 10 M_X8_voice [.ref 70, .int (nI k), .int (nI 0), .int x] σ (fun r τ => r = .int (-1000000006) ∧ ∃ τ1, VJ K k m τ1 (vS K k m 21 0 K x (vT0 (σ 82))).2 ∧ VF σ τ1 ∧ τ = rfm τ1 6) := by
  generalize hA : vS K k m 21 0 K x (vT0 (σ 82)) = A at hp ⊢
  refine ct_of [.ref 70, .int (nI k), .int (nI 0), .int x, .null, .null] pn_X8_voice rfl (Nat.le_of_ble_eq_true rfl) ?_
  refine j_aload_n dX8_voice_0 (q := 1) rfl rfl ?_
  refine j_iload_n dX8_voice_1 (q := 2) rfl rfl ?_
  refine j_callVi1E (M' := M_X8_isFarm) lk_X8_166 mv_X8_isFarm ob_70 (by decide) (Nat.le_of_ble_eq_true rfl) dX8_voice_2 (q := 5) rfl (ct_X8_isFarm) ?_
  refine j_ifeqB dX8_voice_5 (t := 17) (by decide) (q := 8) rfl (fun c_5 => ?_) (fun c_5 => ?_)
  · skip
    refine j_iload_n dX8_voice_8 (q := 9) rfl rfl ?_
    refine j_iconst (v := 0) dX8_voice_9 (q := 10) rfl (by decide) ?_
    refine j_iconst (v := 3) dX8_voice_10 (q := 11) rfl (by decide) ?_
    refine j_callSi3E (M' := M_X8_in) lk_X8_59 ms_X8_in (by decide) (Nat.le_of_ble_eq_true rfl) dX8_voice_11 (q := 14) rfl (ct_X8_in) ?_
    refine j_ifneB dX8_voice_14 (t := 23) (by decide) (q := 17) rfl (fun c_14 => ?_) (fun c_14 => ?_)
    · skip
      refine j_aload_n dX8_voice_23 (q := 24) rfl rfl ?_
      refine j_iconst (v := 0) dX8_voice_24 (q := 25) rfl (by decide) ?_
      refine j_putI fs_X8_220 rfl rfl fp_8_17 dX8_voice_25 (q := 28) rfl ?_
      refine j_aload_n dX8_voice_28 (q := 29) rfl rfl ?_
      refine j_iload_n dX8_voice_29 (q := 30) rfl rfl ?_
      refine j_putI fs_X8_223 rfl rfl fp_8_19 dX8_voice_30 (q := 33) rfl ?_
      refine j_aload_n dX8_voice_33 (q := 34) rfl rfl ?_
      refine j_iconst (v := 0) dX8_voice_34 (q := 35) rfl (by decide) ?_
      refine j_putZ fs_X8_245 rfl rfl fp_8_20 (by decide) dX8_voice_35 (q := 38) rfl ?_
      have hk : k < 7 := by omega
      have hV0 : VJ K k m (up (up (up σ 70 17 0) 70 19 (nI k)) 70 20 0) (vT0 (σ 82)) := ⟨(up_nk (by decide)).trans ((up_nk (by decide)).trans up_at), Nat.zero_le _, up_at, fun j _ => (up_nc (by decide)).trans ((up_nc (by decide)).trans (up_nc (by decide))), (up_nk (by decide)).trans up_at, (up_nc (by decide)).trans ((up_nc (by decide)).trans ((up_nc (by decide)).trans e1)), (up_nc (by decide)).trans ((up_nc (by decide)).trans ((up_nc (by decide)).trans e0))⟩
      have hF0 : VF σ (up (up (up σ 70 17 0) 70 19 (nI k)) 70 20 0) := ⟨fun y y1 _ => (up_row y1).trans ((up_row y1).trans (up_row y1)), (up_nk (by decide)).trans ((up_nk (by decide)).trans (up_nk (by decide)))⟩
      refine j_aload_n dX8_voice_38 (q := 39) rfl rfl ?_
      refine j_callVi0E (M' := M_X8_kindNow) lk_X8_233 mv_X8_kindNow ob_70 (by omega) (Nat.le_of_ble_eq_true rfl) dX8_voice_39 (q := 42) rfl (ct_X8_kindNow hk hV0) ?_
      refine j_istore_6_4 dX8_voice_42 (q := 44) rfl rfl rfl ?_
      refine j_iload_n dX8_voice_44 (q := 45) rfl rfl ?_
      refine j_if_ne dX8_voice_45 (t := 58) (by decide) (q := 48) rfl (fun c_45 => ?_) (fun c_45 => ?_)
      · skip
        exact absurd c_45 (by decide)
      · skip
        refine j_aload_n dX8_voice_48 (q := 49) rfl rfl ?_
        refine j_iload dX8_voice_49 (q := 51) rfl rfl ?_
        refine j_iload_n dX8_voice_51 (q := 52) rfl rfl ?_
        refine j_callVi2 (M' := M_X8_gulpsAs) lk_X8_230 mv_X8_gulpsAs ob_70 (by omega) (Nat.le_of_ble_eq_true rfl) dX8_voice_52 (q := 55) rfl (gu_any (n := 18) hK hK hk hV0) ?_
        intro x1 τ1 hz
        rw [show vS K k m (18 + 3) 0 K x (vT0 (σ 82)) = A from hA] at hz
        obtain ⟨z1, hV1, hF1⟩ := hz
        cases z1
        refine j_goto (q := 95) dX8_voice_55 (by decide) ?_
        refine j_istore_6_5 dX8_voice_95 (q := 97) rfl rfl rfl ?_
        refine j_aload_n dX8_voice_97 (q := 98) rfl rfl ?_
        refine j_getIV fs_X8_245 rfl rfl hV1.2.2.1 dX8_voice_98 (q := 101) rfl ?_
        refine j_if_eq dX8_voice_101 (t := 113) (by decide) (q := 104) rfl (fun c_101 => ?_) (fun c_101 => ?_)
        · skip
          exact absurd c_101 hp
        · skip
          refine j_aload_n dX8_voice_104 (q := 105) rfl rfl ?_
          refine j_bipush (v := 6) dX8_voice_105 (q := 107) rfl (by decide) ?_
          refine j_callVi1E (M' := M_X8_error) lk_X8_63 mv_X8_error ob_70 (by decide) (Nat.le_of_ble_eq_true rfl) dX8_voice_107 (q := 110) rfl (ct_err6) ?_
          refine j_goto (q := 115) dX8_voice_110 (by decide) ?_
          refine j_ireti dX8_voice_115 rfl ?_
          exact ⟨rfl, τ1, hV1, hF1.tr hF0, rfl⟩
    · skip
      exact absurd (inK (b := 3) (by omega) (by decide)) c_14
  · skip
    exact absurd (inF hn h7 e) c_5
theorem ct_X8_voice1_ok {g : GT} {σ : S_} {k nf K : Nat} {m x : Int32} (hn : k < nf) (h7 : nf ≤ 7) (e : σ 71 5 = nI nf) (hK : K < 7) (e1 : σ 71 (10 + 6 * k + 1) = m) (e0 : σ 71 (10 + 6 * k) = nI K) (hp : (vS K k m 21 1 K x (vT0 (σ 82))).2.2.2 = 0) : CT g 10 M_X8_voice [.ref 70, .int (nI k), .int (nI 1), .int x] σ (VY K k m σ (vS K k m 21 1 K x (vT0 (σ 82)))) := by
  generalize hA : vS K k m 21 1 K x (vT0 (σ 82)) = A at hp ⊢
  refine ct_of [.ref 70, .int (nI k), .int (nI 1), .int x, .null, .null] pn_X8_voice rfl (Nat.le_of_ble_eq_true rfl) ?_
  refine j_aload_n dX8_voice_0 (q := 1) rfl rfl ?_
  refine j_iload_n dX8_voice_1 (q := 2) rfl rfl ?_
  refine j_callVi1E (M' := M_X8_isFarm) lk_X8_166 mv_X8_isFarm ob_70 (by decide) (Nat.le_of_ble_eq_true rfl) dX8_voice_2 (q := 5) rfl (ct_X8_isFarm) ?_
  refine j_ifeqB dX8_voice_5 (t := 17) (by decide) (q := 8) rfl (fun c_5 => ?_) (fun c_5 => ?_)
  · skip
    refine j_iload_n dX8_voice_8 (q := 9) rfl rfl ?_
    refine j_iconst (v := 0) dX8_voice_9 (q := 10) rfl (by decide) ?_
    refine j_iconst (v := 3) dX8_voice_10 (q := 11) rfl (by decide) ?_
    refine j_callSi3E (M' := M_X8_in) lk_X8_59 ms_X8_in (by decide) (Nat.le_of_ble_eq_true rfl) dX8_voice_11 (q := 14) rfl (ct_X8_in) ?_
    refine j_ifneB dX8_voice_14 (t := 23) (by decide) (q := 17) rfl (fun c_14 => ?_) (fun c_14 => ?_)
    · skip
      refine j_aload_n dX8_voice_23 (q := 24) rfl rfl ?_
      refine j_iconst (v := 0) dX8_voice_24 (q := 25) rfl (by decide) ?_
      refine j_putI fs_X8_220 rfl rfl fp_8_17 dX8_voice_25 (q := 28) rfl ?_
      refine j_aload_n dX8_voice_28 (q := 29) rfl rfl ?_
      refine j_iload_n dX8_voice_29 (q := 30) rfl rfl ?_
      refine j_putI fs_X8_223 rfl rfl fp_8_19 dX8_voice_30 (q := 33) rfl ?_
      refine j_aload_n dX8_voice_33 (q := 34) rfl rfl ?_
      refine j_iconst (v := 0) dX8_voice_34 (q := 35) rfl (by decide) ?_
      refine j_putZ fs_X8_245 rfl rfl fp_8_20 (by decide) dX8_voice_35 (q := 38) rfl ?_
      have hk : k < 7 := by omega
      have hV0 : VJ K k m (up (up (up σ 70 17 0) 70 19 (nI k)) 70 20 0) (vT0 (σ 82)) := ⟨(up_nk (by decide)).trans ((up_nk (by decide)).trans up_at), Nat.zero_le _, up_at, fun j _ => (up_nc (by decide)).trans ((up_nc (by decide)).trans (up_nc (by decide))), (up_nk (by decide)).trans up_at, (up_nc (by decide)).trans ((up_nc (by decide)).trans ((up_nc (by decide)).trans e1)), (up_nc (by decide)).trans ((up_nc (by decide)).trans ((up_nc (by decide)).trans e0))⟩
      have hF0 : VF σ (up (up (up σ 70 17 0) 70 19 (nI k)) 70 20 0) := ⟨fun y y1 _ => (up_row y1).trans ((up_row y1).trans (up_row y1)), (up_nk (by decide)).trans ((up_nk (by decide)).trans (up_nk (by decide)))⟩
      refine j_aload_n dX8_voice_38 (q := 39) rfl rfl ?_
      refine j_callVi0E (M' := M_X8_kindNow) lk_X8_233 mv_X8_kindNow ob_70 (by omega) (Nat.le_of_ble_eq_true rfl) dX8_voice_39 (q := 42) rfl (ct_X8_kindNow hk hV0) ?_
      refine j_istore_6_4 dX8_voice_42 (q := 44) rfl rfl rfl ?_
      refine j_iload_n dX8_voice_44 (q := 45) rfl rfl ?_
      refine j_if_ne dX8_voice_45 (t := 58) (by decide) (q := 48) rfl (fun c_45 => ?_) (fun c_45 => ?_)
      · skip
        refine j_iload_n dX8_voice_58 (q := 59) rfl rfl ?_
        refine j_iconst (v := 1) dX8_voice_59 (q := 60) rfl (by decide) ?_
        refine j_icmp_ne dX8_voice_60 (t := 73) (by decide) (q := 63) rfl (fun c_60 => ?_) (fun c_60 => ?_)
        · skip
          exact absurd c_60 (by decide)
        · skip
          refine j_aload_n dX8_voice_63 (q := 64) rfl rfl ?_
          refine j_iload dX8_voice_64 (q := 66) rfl rfl ?_
          refine j_iload_n dX8_voice_66 (q := 67) rfl rfl ?_
          refine j_callVi2 (M' := M_X8_sipsAs) lk_X8_236 mv_X8_sipsAs ob_70 (by omega) (Nat.le_of_ble_eq_true rfl) dX8_voice_67 (q := 70) rfl (si_any (n := 15) hK hK hk hV0) ?_
          intro x1 τ1 hz
          rw [show vS K k m (15 + 6) 1 K x (vT0 (σ 82)) = A from hA] at hz
          obtain ⟨z1, hV1, hF1⟩ := hz
          cases z1
          refine j_goto (q := 95) dX8_voice_70 (by decide) ?_
          refine j_istore_6_5 dX8_voice_95 (q := 97) rfl rfl rfl ?_
          refine j_aload_n dX8_voice_97 (q := 98) rfl rfl ?_
          refine j_getIV fs_X8_245 rfl rfl hV1.2.2.1 dX8_voice_98 (q := 101) rfl ?_
          refine j_if_eq dX8_voice_101 (t := 113) (by decide) (q := 104) rfl (fun c_101 => ?_) (fun c_101 => ?_)
          · skip
            refine j_iload dX8_voice_113 (q := 115) rfl rfl ?_
            refine j_ireti dX8_voice_115 rfl ?_
            exact ⟨rfl, hV1, hF1.tr hF0⟩
          · skip
            exact absurd hp c_101
      · skip
        exact absurd c_45 (by decide)
    · skip
      exact absurd (inK (b := 3) (by omega) (by decide)) c_14
  · skip
    exact absurd (inF hn h7 e) c_5
theorem ct_X8_voice1_par {g : GT} {σ : S_} {k nf K : Nat} {m x : Int32} (hn : k < nf) (h7 : nf ≤ 7) (e : σ 71 5 = nI nf) (hK : K < 7) (e1 : σ 71 (10 + 6 * k + 1) = m) (e0 : σ 71 (10 + 6 * k) = nI K) (hp : ¬ (vS K k m 21 1 K x (vT0 (σ 82))).2.2.2 = 0) : CT g 10 M_X8_voice [.ref 70, .int (nI k), .int (nI 1), .int x] σ (fun r τ => r = .int (-1000000006) ∧ ∃ τ1, VJ K k m τ1 (vS K k m 21 1 K x (vT0 (σ 82))).2 ∧ VF σ τ1 ∧ τ = rfm τ1 6) := by
  generalize hA : vS K k m 21 1 K x (vT0 (σ 82)) = A at hp ⊢
  refine ct_of [.ref 70, .int (nI k), .int (nI 1), .int x, .null, .null] pn_X8_voice rfl (Nat.le_of_ble_eq_true rfl) ?_
  refine j_aload_n dX8_voice_0 (q := 1) rfl rfl ?_
  refine j_iload_n dX8_voice_1 (q := 2) rfl rfl ?_
  refine j_callVi1E (M' := M_X8_isFarm) lk_X8_166 mv_X8_isFarm ob_70 (by decide) (Nat.le_of_ble_eq_true rfl) dX8_voice_2 (q := 5) rfl (ct_X8_isFarm) ?_
  refine j_ifeqB dX8_voice_5 (t := 17) (by decide) (q := 8) rfl (fun c_5 => ?_) (fun c_5 => ?_)
  · skip
    refine j_iload_n dX8_voice_8 (q := 9) rfl rfl ?_
    refine j_iconst (v := 0) dX8_voice_9 (q := 10) rfl (by decide) ?_
    refine j_iconst (v := 3) dX8_voice_10 (q := 11) rfl (by decide) ?_
    refine j_callSi3E (M' := M_X8_in) lk_X8_59 ms_X8_in (by decide) (Nat.le_of_ble_eq_true rfl) dX8_voice_11 (q := 14) rfl (ct_X8_in) ?_
    refine j_ifneB dX8_voice_14 (t := 23) (by decide) (q := 17) rfl (fun c_14 => ?_) (fun c_14 => ?_)
    · skip
      refine j_aload_n dX8_voice_23 (q := 24) rfl rfl ?_
      refine j_iconst (v := 0) dX8_voice_24 (q := 25) rfl (by decide) ?_
      refine j_putI fs_X8_220 rfl rfl fp_8_17 dX8_voice_25 (q := 28) rfl ?_
      refine j_aload_n dX8_voice_28 (q := 29) rfl rfl ?_
      refine j_iload_n dX8_voice_29 (q := 30) rfl rfl ?_
      refine j_putI fs_X8_223 rfl rfl fp_8_19 dX8_voice_30 (q := 33) rfl ?_
      refine j_aload_n dX8_voice_33 (q := 34) rfl rfl ?_
      refine j_iconst (v := 0) dX8_voice_34 (q := 35) rfl (by decide) ?_
      refine j_putZ fs_X8_245 rfl rfl fp_8_20 (by decide) dX8_voice_35 (q := 38) rfl ?_
      have hk : k < 7 := by omega
      have hV0 : VJ K k m (up (up (up σ 70 17 0) 70 19 (nI k)) 70 20 0) (vT0 (σ 82)) := ⟨(up_nk (by decide)).trans ((up_nk (by decide)).trans up_at), Nat.zero_le _, up_at, fun j _ => (up_nc (by decide)).trans ((up_nc (by decide)).trans (up_nc (by decide))), (up_nk (by decide)).trans up_at, (up_nc (by decide)).trans ((up_nc (by decide)).trans ((up_nc (by decide)).trans e1)), (up_nc (by decide)).trans ((up_nc (by decide)).trans ((up_nc (by decide)).trans e0))⟩
      have hF0 : VF σ (up (up (up σ 70 17 0) 70 19 (nI k)) 70 20 0) := ⟨fun y y1 _ => (up_row y1).trans ((up_row y1).trans (up_row y1)), (up_nk (by decide)).trans ((up_nk (by decide)).trans (up_nk (by decide)))⟩
      refine j_aload_n dX8_voice_38 (q := 39) rfl rfl ?_
      refine j_callVi0E (M' := M_X8_kindNow) lk_X8_233 mv_X8_kindNow ob_70 (by omega) (Nat.le_of_ble_eq_true rfl) dX8_voice_39 (q := 42) rfl (ct_X8_kindNow hk hV0) ?_
      refine j_istore_6_4 dX8_voice_42 (q := 44) rfl rfl rfl ?_
      refine j_iload_n dX8_voice_44 (q := 45) rfl rfl ?_
      refine j_if_ne dX8_voice_45 (t := 58) (by decide) (q := 48) rfl (fun c_45 => ?_) (fun c_45 => ?_)
      · skip
        refine j_iload_n dX8_voice_58 (q := 59) rfl rfl ?_
        refine j_iconst (v := 1) dX8_voice_59 (q := 60) rfl (by decide) ?_
        refine j_icmp_ne dX8_voice_60 (t := 73) (by decide) (q := 63) rfl (fun c_60 => ?_) (fun c_60 => ?_)
        · skip
          exact absurd c_60 (by decide)
        · skip
          refine j_aload_n dX8_voice_63 (q := 64) rfl rfl ?_
          refine j_iload dX8_voice_64 (q := 66) rfl rfl ?_
          refine j_iload_n dX8_voice_66 (q := 67) rfl rfl ?_
          refine j_callVi2 (M' := M_X8_sipsAs) lk_X8_236 mv_X8_sipsAs ob_70 (by omega) (Nat.le_of_ble_eq_true rfl) dX8_voice_67 (q := 70) rfl (si_any (n := 15) hK hK hk hV0) ?_
          intro x1 τ1 hz
          rw [show vS K k m (15 + 6) 1 K x (vT0 (σ 82)) = A from hA] at hz
          obtain ⟨z1, hV1, hF1⟩ := hz
          cases z1
          refine j_goto (q := 95) dX8_voice_70 (by decide) ?_
          refine j_istore_6_5 dX8_voice_95 (q := 97) rfl rfl rfl ?_
          refine j_aload_n dX8_voice_97 (q := 98) rfl rfl ?_
          refine j_getIV fs_X8_245 rfl rfl hV1.2.2.1 dX8_voice_98 (q := 101) rfl ?_
          refine j_if_eq dX8_voice_101 (t := 113) (by decide) (q := 104) rfl (fun c_101 => ?_) (fun c_101 => ?_)
          · skip
            exact absurd c_101 hp
          · skip
            refine j_aload_n dX8_voice_104 (q := 105) rfl rfl ?_
            refine j_bipush (v := 6) dX8_voice_105 (q := 107) rfl (by decide) ?_
            refine j_callVi1E (M' := M_X8_error) lk_X8_63 mv_X8_error ob_70 (by decide) (Nat.le_of_ble_eq_true rfl) dX8_voice_107 (q := 110) rfl (ct_err6) ?_
            refine j_goto (q := 115) dX8_voice_110 (by decide) ?_
            refine j_ireti dX8_voice_115 rfl ?_
            exact ⟨rfl, τ1, hV1, hF1.tr hF0, rfl⟩
      · skip
        exact absurd c_45 (by decide)
    · skip
      exact absurd (inK (b := 3) (by omega) (by decide)) c_14
  · skip
    exact absurd (inF hn h7 e) c_5
theorem ct_X8_voice2_ok {g : GT} {σ : S_} {k nf K : Nat} {m x : Int32} (hn : k < nf) (h7 : nf ≤ 7) (e : σ 71 5 = nI nf) (hK : K < 7) (e1 : σ 71 (10 + 6 * k + 1) = m) (e0 : σ 71 (10 + 6 * k) = nI K) (hp : (vS K k m 21 2 K x (vT0 (σ 82))).2.2.2 = 0) : CT g 10 M_X8_voice [.ref 70, .int (nI k), .int (nI 2), .int x] σ (VY K k m σ (vS K k m 21 2 K x (vT0 (σ 82)))) := by
  generalize hA : vS K k m 21 2 K x (vT0 (σ 82)) = A at hp ⊢
  refine ct_of [.ref 70, .int (nI k), .int (nI 2), .int x, .null, .null] pn_X8_voice rfl (Nat.le_of_ble_eq_true rfl) ?_
  refine j_aload_n dX8_voice_0 (q := 1) rfl rfl ?_
  refine j_iload_n dX8_voice_1 (q := 2) rfl rfl ?_
  refine j_callVi1E (M' := M_X8_isFarm) lk_X8_166 mv_X8_isFarm ob_70 (by decide) (Nat.le_of_ble_eq_true rfl) dX8_voice_2 (q := 5) rfl (ct_X8_isFarm) ?_
  refine j_ifeqB dX8_voice_5 (t := 17) (by decide) (q := 8) rfl (fun c_5 => ?_) (fun c_5 => ?_)
  · skip
    refine j_iload_n dX8_voice_8 (q := 9) rfl rfl ?_
    refine j_iconst (v := 0) dX8_voice_9 (q := 10) rfl (by decide) ?_
    refine j_iconst (v := 3) dX8_voice_10 (q := 11) rfl (by decide) ?_
    refine j_callSi3E (M' := M_X8_in) lk_X8_59 ms_X8_in (by decide) (Nat.le_of_ble_eq_true rfl) dX8_voice_11 (q := 14) rfl (ct_X8_in) ?_
    refine j_ifneB dX8_voice_14 (t := 23) (by decide) (q := 17) rfl (fun c_14 => ?_) (fun c_14 => ?_)
    · skip
      refine j_aload_n dX8_voice_23 (q := 24) rfl rfl ?_
      refine j_iconst (v := 0) dX8_voice_24 (q := 25) rfl (by decide) ?_
      refine j_putI fs_X8_220 rfl rfl fp_8_17 dX8_voice_25 (q := 28) rfl ?_
      refine j_aload_n dX8_voice_28 (q := 29) rfl rfl ?_
      refine j_iload_n dX8_voice_29 (q := 30) rfl rfl ?_
      refine j_putI fs_X8_223 rfl rfl fp_8_19 dX8_voice_30 (q := 33) rfl ?_
      refine j_aload_n dX8_voice_33 (q := 34) rfl rfl ?_
      refine j_iconst (v := 0) dX8_voice_34 (q := 35) rfl (by decide) ?_
      refine j_putZ fs_X8_245 rfl rfl fp_8_20 (by decide) dX8_voice_35 (q := 38) rfl ?_
      have hk : k < 7 := by omega
      have hV0 : VJ K k m (up (up (up σ 70 17 0) 70 19 (nI k)) 70 20 0) (vT0 (σ 82)) := ⟨(up_nk (by decide)).trans ((up_nk (by decide)).trans up_at), Nat.zero_le _, up_at, fun j _ => (up_nc (by decide)).trans ((up_nc (by decide)).trans (up_nc (by decide))), (up_nk (by decide)).trans up_at, (up_nc (by decide)).trans ((up_nc (by decide)).trans ((up_nc (by decide)).trans e1)), (up_nc (by decide)).trans ((up_nc (by decide)).trans ((up_nc (by decide)).trans e0))⟩
      have hF0 : VF σ (up (up (up σ 70 17 0) 70 19 (nI k)) 70 20 0) := ⟨fun y y1 _ => (up_row y1).trans ((up_row y1).trans (up_row y1)), (up_nk (by decide)).trans ((up_nk (by decide)).trans (up_nk (by decide)))⟩
      refine j_aload_n dX8_voice_38 (q := 39) rfl rfl ?_
      refine j_callVi0E (M' := M_X8_kindNow) lk_X8_233 mv_X8_kindNow ob_70 (by omega) (Nat.le_of_ble_eq_true rfl) dX8_voice_39 (q := 42) rfl (ct_X8_kindNow hk hV0) ?_
      refine j_istore_6_4 dX8_voice_42 (q := 44) rfl rfl rfl ?_
      refine j_iload_n dX8_voice_44 (q := 45) rfl rfl ?_
      refine j_if_ne dX8_voice_45 (t := 58) (by decide) (q := 48) rfl (fun c_45 => ?_) (fun c_45 => ?_)
      · skip
        refine j_iload_n dX8_voice_58 (q := 59) rfl rfl ?_
        refine j_iconst (v := 1) dX8_voice_59 (q := 60) rfl (by decide) ?_
        refine j_icmp_ne dX8_voice_60 (t := 73) (by decide) (q := 63) rfl (fun c_60 => ?_) (fun c_60 => ?_)
        · skip
          refine j_iload_n dX8_voice_73 (q := 74) rfl rfl ?_
          refine j_iconst (v := 2) dX8_voice_74 (q := 75) rfl (by decide) ?_
          refine j_icmp_ne dX8_voice_75 (t := 88) (by decide) (q := 78) rfl (fun c_75 => ?_) (fun c_75 => ?_)
          · skip
            exact absurd c_75 (by decide)
          · skip
            refine j_aload_n dX8_voice_78 (q := 79) rfl rfl ?_
            refine j_iload dX8_voice_79 (q := 81) rfl rfl ?_
            refine j_iload_n dX8_voice_81 (q := 82) rfl rfl ?_
            refine j_callVi2 (M' := M_X8_sighsAs) lk_X8_242 mv_X8_sighsAs ob_70 (by omega) (Nat.le_of_ble_eq_true rfl) dX8_voice_82 (q := 85) rfl (sg_any (n := 13) hK hK hk hV0) ?_
            intro x1 τ1 hz
            rw [show vS K k m (13 + 8) 2 K x (vT0 (σ 82)) = A from hA] at hz
            obtain ⟨z1, hV1, hF1⟩ := hz
            cases z1
            refine j_goto (q := 95) dX8_voice_85 (by decide) ?_
            refine j_istore_6_5 dX8_voice_95 (q := 97) rfl rfl rfl ?_
            refine j_aload_n dX8_voice_97 (q := 98) rfl rfl ?_
            refine j_getIV fs_X8_245 rfl rfl hV1.2.2.1 dX8_voice_98 (q := 101) rfl ?_
            refine j_if_eq dX8_voice_101 (t := 113) (by decide) (q := 104) rfl (fun c_101 => ?_) (fun c_101 => ?_)
            · skip
              refine j_iload dX8_voice_113 (q := 115) rfl rfl ?_
              refine j_ireti dX8_voice_115 rfl ?_
              exact ⟨rfl, hV1, hF1.tr hF0⟩
            · skip
              exact absurd hp c_101
        · skip
          exact absurd c_60 (by decide)
      · skip
        exact absurd c_45 (by decide)
    · skip
      exact absurd (inK (b := 3) (by omega) (by decide)) c_14
  · skip
    exact absurd (inF hn h7 e) c_5
theorem ct_X8_voice2_par {g : GT} {σ : S_} {k nf K : Nat} {m x : Int32} (hn : k < nf) (h7 : nf ≤ 7) (e : σ 71 5 = nI nf) (hK : K < 7) (e1 : σ 71 (10 + 6 * k + 1) = m) (e0 : σ 71 (10 + 6 * k) = nI K) (hp : ¬ (vS K k m 21 2 K x (vT0 (σ 82))).2.2.2 = 0) : CT g 10 M_X8_voice [.ref 70, .int (nI k), .int (nI 2), .int x] σ (fun r τ => r = .int (-1000000006) ∧ ∃ τ1, VJ K k m τ1 (vS K k m 21 2 K x (vT0 (σ 82))).2 ∧ VF σ τ1 ∧ τ = rfm τ1 6) := by
  generalize hA : vS K k m 21 2 K x (vT0 (σ 82)) = A at hp ⊢
  refine ct_of [.ref 70, .int (nI k), .int (nI 2), .int x, .null, .null] pn_X8_voice rfl (Nat.le_of_ble_eq_true rfl) ?_
  refine j_aload_n dX8_voice_0 (q := 1) rfl rfl ?_
  refine j_iload_n dX8_voice_1 (q := 2) rfl rfl ?_
  refine j_callVi1E (M' := M_X8_isFarm) lk_X8_166 mv_X8_isFarm ob_70 (by decide) (Nat.le_of_ble_eq_true rfl) dX8_voice_2 (q := 5) rfl (ct_X8_isFarm) ?_
  refine j_ifeqB dX8_voice_5 (t := 17) (by decide) (q := 8) rfl (fun c_5 => ?_) (fun c_5 => ?_)
  · skip
    refine j_iload_n dX8_voice_8 (q := 9) rfl rfl ?_
    refine j_iconst (v := 0) dX8_voice_9 (q := 10) rfl (by decide) ?_
    refine j_iconst (v := 3) dX8_voice_10 (q := 11) rfl (by decide) ?_
    refine j_callSi3E (M' := M_X8_in) lk_X8_59 ms_X8_in (by decide) (Nat.le_of_ble_eq_true rfl) dX8_voice_11 (q := 14) rfl (ct_X8_in) ?_
    refine j_ifneB dX8_voice_14 (t := 23) (by decide) (q := 17) rfl (fun c_14 => ?_) (fun c_14 => ?_)
    · skip
      refine j_aload_n dX8_voice_23 (q := 24) rfl rfl ?_
      refine j_iconst (v := 0) dX8_voice_24 (q := 25) rfl (by decide) ?_
      refine j_putI fs_X8_220 rfl rfl fp_8_17 dX8_voice_25 (q := 28) rfl ?_
      refine j_aload_n dX8_voice_28 (q := 29) rfl rfl ?_
      refine j_iload_n dX8_voice_29 (q := 30) rfl rfl ?_
      refine j_putI fs_X8_223 rfl rfl fp_8_19 dX8_voice_30 (q := 33) rfl ?_
      refine j_aload_n dX8_voice_33 (q := 34) rfl rfl ?_
      refine j_iconst (v := 0) dX8_voice_34 (q := 35) rfl (by decide) ?_
      refine j_putZ fs_X8_245 rfl rfl fp_8_20 (by decide) dX8_voice_35 (q := 38) rfl ?_
      have hk : k < 7 := by omega
      have hV0 : VJ K k m (up (up (up σ 70 17 0) 70 19 (nI k)) 70 20 0) (vT0 (σ 82)) := ⟨(up_nk (by decide)).trans ((up_nk (by decide)).trans up_at), Nat.zero_le _, up_at, fun j _ => (up_nc (by decide)).trans ((up_nc (by decide)).trans (up_nc (by decide))), (up_nk (by decide)).trans up_at, (up_nc (by decide)).trans ((up_nc (by decide)).trans ((up_nc (by decide)).trans e1)), (up_nc (by decide)).trans ((up_nc (by decide)).trans ((up_nc (by decide)).trans e0))⟩
      have hF0 : VF σ (up (up (up σ 70 17 0) 70 19 (nI k)) 70 20 0) := ⟨fun y y1 _ => (up_row y1).trans ((up_row y1).trans (up_row y1)), (up_nk (by decide)).trans ((up_nk (by decide)).trans (up_nk (by decide)))⟩
      refine j_aload_n dX8_voice_38 (q := 39) rfl rfl ?_
      refine j_callVi0E (M' := M_X8_kindNow) lk_X8_233 mv_X8_kindNow ob_70 (by omega) (Nat.le_of_ble_eq_true rfl) dX8_voice_39 (q := 42) rfl (ct_X8_kindNow hk hV0) ?_
      refine j_istore_6_4 dX8_voice_42 (q := 44) rfl rfl rfl ?_
      refine j_iload_n dX8_voice_44 (q := 45) rfl rfl ?_
      refine j_if_ne dX8_voice_45 (t := 58) (by decide) (q := 48) rfl (fun c_45 => ?_) (fun c_45 => ?_)
      · skip
        refine j_iload_n dX8_voice_58 (q := 59) rfl rfl ?_
        refine j_iconst (v := 1) dX8_voice_59 (q := 60) rfl (by decide) ?_
        refine j_icmp_ne dX8_voice_60 (t := 73) (by decide) (q := 63) rfl (fun c_60 => ?_) (fun c_60 => ?_)
        · skip
          refine j_iload_n dX8_voice_73 (q := 74) rfl rfl ?_
          refine j_iconst (v := 2) dX8_voice_74 (q := 75) rfl (by decide) ?_
          refine j_icmp_ne dX8_voice_75 (t := 88) (by decide) (q := 78) rfl (fun c_75 => ?_) (fun c_75 => ?_)
          · skip
            exact absurd c_75 (by decide)
          · skip
            refine j_aload_n dX8_voice_78 (q := 79) rfl rfl ?_
            refine j_iload dX8_voice_79 (q := 81) rfl rfl ?_
            refine j_iload_n dX8_voice_81 (q := 82) rfl rfl ?_
            refine j_callVi2 (M' := M_X8_sighsAs) lk_X8_242 mv_X8_sighsAs ob_70 (by omega) (Nat.le_of_ble_eq_true rfl) dX8_voice_82 (q := 85) rfl (sg_any (n := 13) hK hK hk hV0) ?_
            intro x1 τ1 hz
            rw [show vS K k m (13 + 8) 2 K x (vT0 (σ 82)) = A from hA] at hz
            obtain ⟨z1, hV1, hF1⟩ := hz
            cases z1
            refine j_goto (q := 95) dX8_voice_85 (by decide) ?_
            refine j_istore_6_5 dX8_voice_95 (q := 97) rfl rfl rfl ?_
            refine j_aload_n dX8_voice_97 (q := 98) rfl rfl ?_
            refine j_getIV fs_X8_245 rfl rfl hV1.2.2.1 dX8_voice_98 (q := 101) rfl ?_
            refine j_if_eq dX8_voice_101 (t := 113) (by decide) (q := 104) rfl (fun c_101 => ?_) (fun c_101 => ?_)
            · skip
              exact absurd c_101 hp
            · skip
              refine j_aload_n dX8_voice_104 (q := 105) rfl rfl ?_
              refine j_bipush (v := 6) dX8_voice_105 (q := 107) rfl (by decide) ?_
              refine j_callVi1E (M' := M_X8_error) lk_X8_63 mv_X8_error ob_70 (by decide) (Nat.le_of_ble_eq_true rfl) dX8_voice_107 (q := 110) rfl (ct_err6) ?_
              refine j_goto (q := 115) dX8_voice_110 (by decide) ?_
              refine j_ireti dX8_voice_115 rfl ?_
              exact ⟨rfl, τ1, hV1, hF1.tr hF0, rfl⟩
        · skip
          exact absurd c_60 (by decide)
      · skip
        exact absurd c_45 (by decide)
    · skip
      exact absurd (inK (b := 3) (by omega) (by decide)) c_14
  · skip
    exact absurd (inF hn h7 e) c_5
theorem ct_X8_voice3_ok {g : GT} {σ : S_} {k nf K : Nat} {m x : Int32} (hn : k < nf) (h7 : nf ≤ 7) (e : σ 71 5 = nI nf) (hK : K < 7) (e1 : σ 71 (10 + 6 * k + 1) = m) (e0 : σ 71 (10 + 6 * k) = nI K) (hp : (vS K k m 21 3 K x (vT0 (σ 82))).2.2.2 = 0) : CT g 10 M_X8_voice [.ref 70, .int (nI k), .int (nI 3), .int x] σ (VY K k m σ (vS K k m 21 3 K x (vT0 (σ 82)))) := by
  generalize hA : vS K k m 21 3 K x (vT0 (σ 82)) = A at hp ⊢
  refine ct_of [.ref 70, .int (nI k), .int (nI 3), .int x, .null, .null] pn_X8_voice rfl (Nat.le_of_ble_eq_true rfl) ?_
  refine j_aload_n dX8_voice_0 (q := 1) rfl rfl ?_
  refine j_iload_n dX8_voice_1 (q := 2) rfl rfl ?_
  refine j_callVi1E (M' := M_X8_isFarm) lk_X8_166 mv_X8_isFarm ob_70 (by decide) (Nat.le_of_ble_eq_true rfl) dX8_voice_2 (q := 5) rfl (ct_X8_isFarm) ?_
  refine j_ifeqB dX8_voice_5 (t := 17) (by decide) (q := 8) rfl (fun c_5 => ?_) (fun c_5 => ?_)
  · skip
    refine j_iload_n dX8_voice_8 (q := 9) rfl rfl ?_
    refine j_iconst (v := 0) dX8_voice_9 (q := 10) rfl (by decide) ?_
    refine j_iconst (v := 3) dX8_voice_10 (q := 11) rfl (by decide) ?_
    refine j_callSi3E (M' := M_X8_in) lk_X8_59 ms_X8_in (by decide) (Nat.le_of_ble_eq_true rfl) dX8_voice_11 (q := 14) rfl (ct_X8_in) ?_
    refine j_ifneB dX8_voice_14 (t := 23) (by decide) (q := 17) rfl (fun c_14 => ?_) (fun c_14 => ?_)
    · skip
      refine j_aload_n dX8_voice_23 (q := 24) rfl rfl ?_
      refine j_iconst (v := 0) dX8_voice_24 (q := 25) rfl (by decide) ?_
      refine j_putI fs_X8_220 rfl rfl fp_8_17 dX8_voice_25 (q := 28) rfl ?_
      refine j_aload_n dX8_voice_28 (q := 29) rfl rfl ?_
      refine j_iload_n dX8_voice_29 (q := 30) rfl rfl ?_
      refine j_putI fs_X8_223 rfl rfl fp_8_19 dX8_voice_30 (q := 33) rfl ?_
      refine j_aload_n dX8_voice_33 (q := 34) rfl rfl ?_
      refine j_iconst (v := 0) dX8_voice_34 (q := 35) rfl (by decide) ?_
      refine j_putZ fs_X8_245 rfl rfl fp_8_20 (by decide) dX8_voice_35 (q := 38) rfl ?_
      have hk : k < 7 := by omega
      have hV0 : VJ K k m (up (up (up σ 70 17 0) 70 19 (nI k)) 70 20 0) (vT0 (σ 82)) := ⟨(up_nk (by decide)).trans ((up_nk (by decide)).trans up_at), Nat.zero_le _, up_at, fun j _ => (up_nc (by decide)).trans ((up_nc (by decide)).trans (up_nc (by decide))), (up_nk (by decide)).trans up_at, (up_nc (by decide)).trans ((up_nc (by decide)).trans ((up_nc (by decide)).trans e1)), (up_nc (by decide)).trans ((up_nc (by decide)).trans ((up_nc (by decide)).trans e0))⟩
      have hF0 : VF σ (up (up (up σ 70 17 0) 70 19 (nI k)) 70 20 0) := ⟨fun y y1 _ => (up_row y1).trans ((up_row y1).trans (up_row y1)), (up_nk (by decide)).trans ((up_nk (by decide)).trans (up_nk (by decide)))⟩
      refine j_aload_n dX8_voice_38 (q := 39) rfl rfl ?_
      refine j_callVi0E (M' := M_X8_kindNow) lk_X8_233 mv_X8_kindNow ob_70 (by omega) (Nat.le_of_ble_eq_true rfl) dX8_voice_39 (q := 42) rfl (ct_X8_kindNow hk hV0) ?_
      refine j_istore_6_4 dX8_voice_42 (q := 44) rfl rfl rfl ?_
      refine j_iload_n dX8_voice_44 (q := 45) rfl rfl ?_
      refine j_if_ne dX8_voice_45 (t := 58) (by decide) (q := 48) rfl (fun c_45 => ?_) (fun c_45 => ?_)
      · skip
        refine j_iload_n dX8_voice_58 (q := 59) rfl rfl ?_
        refine j_iconst (v := 1) dX8_voice_59 (q := 60) rfl (by decide) ?_
        refine j_icmp_ne dX8_voice_60 (t := 73) (by decide) (q := 63) rfl (fun c_60 => ?_) (fun c_60 => ?_)
        · skip
          refine j_iload_n dX8_voice_73 (q := 74) rfl rfl ?_
          refine j_iconst (v := 2) dX8_voice_74 (q := 75) rfl (by decide) ?_
          refine j_icmp_ne dX8_voice_75 (t := 88) (by decide) (q := 78) rfl (fun c_75 => ?_) (fun c_75 => ?_)
          · skip
            refine j_aload_n dX8_voice_88 (q := 89) rfl rfl ?_
            refine j_iload dX8_voice_89 (q := 91) rfl rfl ?_
            refine j_iload_n dX8_voice_91 (q := 92) rfl rfl ?_
            refine j_callVi2 (M' := M_X8_partsAs) lk_X8_249 mv_X8_partsAs ob_70 (by omega) (Nat.le_of_ble_eq_true rfl) dX8_voice_92 (q := 95) rfl (pt_any (n := 14) hK hK hk hV0 rfl) ?_
            intro x1 τ1 hz
            rw [show vS K k m (14 + 7) 3 K x (vT0 (σ 82)) = A from hA] at hz
            obtain ⟨z1, hV1, hF1⟩ := hz
            cases z1
            refine j_istore_6_5 dX8_voice_95 (q := 97) rfl rfl rfl ?_
            refine j_aload_n dX8_voice_97 (q := 98) rfl rfl ?_
            refine j_getIV fs_X8_245 rfl rfl hV1.2.2.1 dX8_voice_98 (q := 101) rfl ?_
            refine j_if_eq dX8_voice_101 (t := 113) (by decide) (q := 104) rfl (fun c_101 => ?_) (fun c_101 => ?_)
            · skip
              refine j_iload dX8_voice_113 (q := 115) rfl rfl ?_
              refine j_ireti dX8_voice_115 rfl ?_
              exact ⟨rfl, hV1, hF1.tr hF0⟩
            · skip
              exact absurd hp c_101
          · skip
            exact absurd c_75 (by decide)
        · skip
          exact absurd c_60 (by decide)
      · skip
        exact absurd c_45 (by decide)
    · skip
      exact absurd (inK (b := 3) (by omega) (by decide)) c_14
  · skip
    exact absurd (inF hn h7 e) c_5
theorem ct_X8_voice3_par {g : GT} {σ : S_} {k nf K : Nat} {m x : Int32} (hn : k < nf) (h7 : nf ≤ 7) (e : σ 71 5 = nI nf) (hK : K < 7) (e1 : σ 71 (10 + 6 * k + 1) = m) (e0 : σ 71 (10 + 6 * k) = nI K) (hp : ¬ (vS K k m 21 3 K x (vT0 (σ 82))).2.2.2 = 0) : CT g 10 M_X8_voice [.ref 70, .int (nI k), .int (nI 3), .int x] σ (fun r τ => r = .int (-1000000006) ∧ ∃ τ1, VJ K k m τ1 (vS K k m 21 3 K x (vT0 (σ 82))).2 ∧ VF σ τ1 ∧ τ = rfm τ1 6) := by
  generalize hA : vS K k m 21 3 K x (vT0 (σ 82)) = A at hp ⊢
  refine ct_of [.ref 70, .int (nI k), .int (nI 3), .int x, .null, .null] pn_X8_voice rfl (Nat.le_of_ble_eq_true rfl) ?_
  refine j_aload_n dX8_voice_0 (q := 1) rfl rfl ?_
  refine j_iload_n dX8_voice_1 (q := 2) rfl rfl ?_
  refine j_callVi1E (M' := M_X8_isFarm) lk_X8_166 mv_X8_isFarm ob_70 (by decide) (Nat.le_of_ble_eq_true rfl) dX8_voice_2 (q := 5) rfl (ct_X8_isFarm) ?_
  refine j_ifeqB dX8_voice_5 (t := 17) (by decide) (q := 8) rfl (fun c_5 => ?_) (fun c_5 => ?_)
  · skip
    refine j_iload_n dX8_voice_8 (q := 9) rfl rfl ?_
    refine j_iconst (v := 0) dX8_voice_9 (q := 10) rfl (by decide) ?_
    refine j_iconst (v := 3) dX8_voice_10 (q := 11) rfl (by decide) ?_
    refine j_callSi3E (M' := M_X8_in) lk_X8_59 ms_X8_in (by decide) (Nat.le_of_ble_eq_true rfl) dX8_voice_11 (q := 14) rfl (ct_X8_in) ?_
    refine j_ifneB dX8_voice_14 (t := 23) (by decide) (q := 17) rfl (fun c_14 => ?_) (fun c_14 => ?_)
    · skip
      refine j_aload_n dX8_voice_23 (q := 24) rfl rfl ?_
      refine j_iconst (v := 0) dX8_voice_24 (q := 25) rfl (by decide) ?_
      refine j_putI fs_X8_220 rfl rfl fp_8_17 dX8_voice_25 (q := 28) rfl ?_
      refine j_aload_n dX8_voice_28 (q := 29) rfl rfl ?_
      refine j_iload_n dX8_voice_29 (q := 30) rfl rfl ?_
      refine j_putI fs_X8_223 rfl rfl fp_8_19 dX8_voice_30 (q := 33) rfl ?_
      refine j_aload_n dX8_voice_33 (q := 34) rfl rfl ?_
      refine j_iconst (v := 0) dX8_voice_34 (q := 35) rfl (by decide) ?_
      refine j_putZ fs_X8_245 rfl rfl fp_8_20 (by decide) dX8_voice_35 (q := 38) rfl ?_
      have hk : k < 7 := by omega
      have hV0 : VJ K k m (up (up (up σ 70 17 0) 70 19 (nI k)) 70 20 0) (vT0 (σ 82)) := ⟨(up_nk (by decide)).trans ((up_nk (by decide)).trans up_at), Nat.zero_le _, up_at, fun j _ => (up_nc (by decide)).trans ((up_nc (by decide)).trans (up_nc (by decide))), (up_nk (by decide)).trans up_at, (up_nc (by decide)).trans ((up_nc (by decide)).trans ((up_nc (by decide)).trans e1)), (up_nc (by decide)).trans ((up_nc (by decide)).trans ((up_nc (by decide)).trans e0))⟩
      have hF0 : VF σ (up (up (up σ 70 17 0) 70 19 (nI k)) 70 20 0) := ⟨fun y y1 _ => (up_row y1).trans ((up_row y1).trans (up_row y1)), (up_nk (by decide)).trans ((up_nk (by decide)).trans (up_nk (by decide)))⟩
      refine j_aload_n dX8_voice_38 (q := 39) rfl rfl ?_
      refine j_callVi0E (M' := M_X8_kindNow) lk_X8_233 mv_X8_kindNow ob_70 (by omega) (Nat.le_of_ble_eq_true rfl) dX8_voice_39 (q := 42) rfl (ct_X8_kindNow hk hV0) ?_
      refine j_istore_6_4 dX8_voice_42 (q := 44) rfl rfl rfl ?_
      refine j_iload_n dX8_voice_44 (q := 45) rfl rfl ?_
      refine j_if_ne dX8_voice_45 (t := 58) (by decide) (q := 48) rfl (fun c_45 => ?_) (fun c_45 => ?_)
      · skip
        refine j_iload_n dX8_voice_58 (q := 59) rfl rfl ?_
        refine j_iconst (v := 1) dX8_voice_59 (q := 60) rfl (by decide) ?_
        refine j_icmp_ne dX8_voice_60 (t := 73) (by decide) (q := 63) rfl (fun c_60 => ?_) (fun c_60 => ?_)
        · skip
          refine j_iload_n dX8_voice_73 (q := 74) rfl rfl ?_
          refine j_iconst (v := 2) dX8_voice_74 (q := 75) rfl (by decide) ?_
          refine j_icmp_ne dX8_voice_75 (t := 88) (by decide) (q := 78) rfl (fun c_75 => ?_) (fun c_75 => ?_)
          · skip
            refine j_aload_n dX8_voice_88 (q := 89) rfl rfl ?_
            refine j_iload dX8_voice_89 (q := 91) rfl rfl ?_
            refine j_iload_n dX8_voice_91 (q := 92) rfl rfl ?_
            refine j_callVi2 (M' := M_X8_partsAs) lk_X8_249 mv_X8_partsAs ob_70 (by omega) (Nat.le_of_ble_eq_true rfl) dX8_voice_92 (q := 95) rfl (pt_any (n := 14) hK hK hk hV0 rfl) ?_
            intro x1 τ1 hz
            rw [show vS K k m (14 + 7) 3 K x (vT0 (σ 82)) = A from hA] at hz
            obtain ⟨z1, hV1, hF1⟩ := hz
            cases z1
            refine j_istore_6_5 dX8_voice_95 (q := 97) rfl rfl rfl ?_
            refine j_aload_n dX8_voice_97 (q := 98) rfl rfl ?_
            refine j_getIV fs_X8_245 rfl rfl hV1.2.2.1 dX8_voice_98 (q := 101) rfl ?_
            refine j_if_eq dX8_voice_101 (t := 113) (by decide) (q := 104) rfl (fun c_101 => ?_) (fun c_101 => ?_)
            · skip
              exact absurd c_101 hp
            · skip
              refine j_aload_n dX8_voice_104 (q := 105) rfl rfl ?_
              refine j_bipush (v := 6) dX8_voice_105 (q := 107) rfl (by decide) ?_
              refine j_callVi1E (M' := M_X8_error) lk_X8_63 mv_X8_error ob_70 (by decide) (Nat.le_of_ble_eq_true rfl) dX8_voice_107 (q := 110) rfl (ct_err6) ?_
              refine j_goto (q := 115) dX8_voice_110 (by decide) ?_
              refine j_ireti dX8_voice_115 rfl ?_
              exact ⟨rfl, τ1, hV1, hF1.tr hF0, rfl⟩
          · skip
            exact absurd c_75 (by decide)
        · skip
          exact absurd c_60 (by decide)
      · skip
        exact absurd c_45 (by decide)
    · skip
      exact absurd (inK (b := 3) (by omega) (by decide)) c_14
  · skip
    exact absurd (inF hn h7 e) c_5
theorem ct_X8_voice_ok {g : GT} {σ : S_} {k nf K v : Nat} {m x : Int32} (hn : k < nf) (h7 : nf ≤ 7) (e : σ 71 5 = nI nf) (hK : K < 7) (hv : v < 4) (e1 : σ 71 (10 + 6 * k + 1) = m) (e0 : σ 71 (10 + 6 * k) = nI K) (hp : (vS K k m 21 v K x (vT0 (σ 82))).2.2.2 = 0) : CT g 10 M_X8_voice [.ref 70, .int (nI k), .int (nI v), .int x] σ (VY K k m σ (vS K k m 21 v K x (vT0 (σ 82)))) := by
  rcases (show v = 0 ∨ v = 1 ∨ v = 2 ∨ v = 3 by omega) with rfl | rfl | rfl | rfl
  · exact ct_X8_voice0_ok hn h7 e hK e1 e0 hp
  · exact ct_X8_voice1_ok hn h7 e hK e1 e0 hp
  · exact ct_X8_voice2_ok hn h7 e hK e1 e0 hp
  · exact ct_X8_voice3_ok hn h7 e hK e1 e0 hp
theorem ct_X8_voice_par {g : GT} {σ : S_} {k nf K v : Nat} {m x : Int32} (hn : k < nf) (h7 : nf ≤ 7) (e : σ 71 5 = nI nf) (hK : K < 7) (hv : v < 4) (e1 : σ 71 (10 + 6 * k + 1) = m) (e0 : σ 71 (10 + 6 * k) = nI K) (hp : ¬ (vS K k m 21 v K x (vT0 (σ 82))).2.2.2 = 0) : CT g 10 M_X8_voice [.ref 70, .int (nI k), .int (nI v), .int x] σ (fun r τ => r = .int (-1000000006) ∧ ∃ τ1, VJ K k m τ1 (vS K k m 21 v K x (vT0 (σ 82))).2 ∧ VF σ τ1 ∧ τ = rfm τ1 6) := by
  rcases (show v = 0 ∨ v = 1 ∨ v = 2 ∨ v = 3 by omega) with rfl | rfl | rfl | rfl
  · exact ct_X8_voice0_par hn h7 e hK e1 e0 hp
  · exact ct_X8_voice1_par hn h7 e hK e1 e0 hp
  · exact ct_X8_voice2_par hn h7 e hK e1 e0 hp
  · exact ct_X8_voice3_par hn h7 e hK e1 e0 hp
