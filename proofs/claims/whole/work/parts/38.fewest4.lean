theorem fz_loop {g : GT} {m : Nat} {f : Int32} {Z : Value → S_ → Prop} {σ0 : S_} (hZ : ∀ τ : S_, (∀ j, j < 4 → τ 81 j = 0) → (∀ x, x ≠ 81 → τ x = σ0 x) → J g 10 M_X8_fewest Z 46 [.ref 70, .int (nI m), .int f, .int (nI 4)] [] τ) : ∀ (k i : Nat) (σ : S_), i + k = 4 → (∀ j, j < i → σ 81 j = 0) → (∀ x, x ≠ 81 → σ x = σ0 x) → J g 10 M_X8_fewest Z 28 [.ref 70, .int (nI m), .int f, .int (nI i)] [] σ := by
  intro k
  induction k with
  | zero =>
    intro i σ hik hw hO
    refine j_iload_n dX8_fewest_28 (q := 29) rfl rfl ?_
    refine j_iconst (v := 4) dX8_fewest_29 (q := 30) rfl (by decide) ?_
    refine j_icmp_geN (b := 4) (by omega) (by omega) dX8_fewest_30 (t := 46) (by decide) (q := 33) rfl (fun c_30 => ?_) (fun c_30 => ?_)
    · skip
      obtain rfl : i = 4 := by omega
      exact hZ σ hw hO
    · skip
      omega
  | succ k ih =>
    intro i σ hik hw hO
    refine j_iload_n dX8_fewest_28 (q := 29) rfl rfl ?_
    refine j_iconst (v := 4) dX8_fewest_29 (q := 30) rfl (by decide) ?_
    refine j_icmp_geN (b := 4) (by omega) (by omega) dX8_fewest_30 (t := 46) (by decide) (q := 33) rfl (fun c_30 => ?_) (fun c_30 => ?_)
    · skip
      omega
    · skip
      refine j_aload_n dX8_fewest_33 (q := 34) rfl rfl ?_
      refine j_getR (r := 81) fs_X8_40 rfl rfl rfl dX8_fewest_34 (q := 37) rfl ?_
      refine j_iload_n dX8_fewest_37 (q := 38) rfl rfl ?_
      refine j_iconst (v := 0) dX8_fewest_38 (q := 39) rfl (by decide) ?_
      refine j_iastN rfl (by omega) dX8_fewest_39 (q := 40) rfl ?_
      refine j_iincN_4_3 dX8_fewest_40 (q := 43) rfl rfl rfl ?_
      refine j_goto (q := 28) dX8_fewest_43 (by decide) ?_
      refine ih (i + 1) _ (by omega) (fun j hj => ?_) (fun x hx => (up_row hx).trans (hO x hx))
      by_cases e : j = i
      · subst e; exact up_at
      · exact (up_nk e).trans (hw j (by omega))
def okF (τ σ : S_) : Prop := (∀ x, x ≠ 70 → x ≠ 79 → x ≠ 80 → x ≠ 81 → τ x = σ x) ∧ ∀ j, j ≠ 16 → τ 70 j = σ 70 j
theorem fe_none {g : GT} {σ0 σ : S_} {nf nc m : Nat} {D B : Nat → Nat} (h7 : nf ≤ 7) (h4 : nc ≤ 4) (hm : m ≤ 99) (hS : σ0 71 5 = nI nf ∧ σ0 71 6 = nI nc ∧ NB (σ0 71) nf nc D B) {f : Int32} (hf : -1 ≤ f ∧ f ≤ 6) (h5 : (fewP nf nc m D B).1 = 5) (h81 : ∀ j, j < 4 → σ 81 j = 0) (hO : ∀ x, x ≠ 81 → σ x = σ0 x) : J g 10 M_X8_fewest (fun r τ => r = .int (-1000000002) ∧ ∃ τ1, τ = rfm τ1 2 ∧ okF τ1 σ0) 46 [.ref 70, .int (nI m), .int f, .int (nI 4)] [] σ := by
  refine j_aload_n dX8_fewest_46 (q := 47) rfl rfl ?_
  refine j_iconst (v := (-1)) dX8_fewest_47 (q := 48) rfl (by decide) ?_
  refine j_putI fs_X8_205 rfl rfl fp_8_16 dX8_fewest_48 (q := 51) rfl ?_
  have hS1 : up σ 70 16 (-1) 71 5 = nI nf ∧ up σ 70 16 (-1) 71 6 = nI nc ∧ NB (up σ 70 16 (-1) 71) nf nc D B := by
    rw [show up σ 70 16 (-1) 71 = σ0 71 from (up_row (by decide)).trans (hO 71 (by decide))]
    exact hS
  refine j_aload_n dX8_fewest_51 (q := 52) rfl rfl ?_
  refine j_iconst (v := 0) dX8_fewest_52 (q := 53) rfl (by decide) ?_
  refine j_iload_n dX8_fewest_53 (q := 54) rfl rfl ?_
  refine j_iconst (v := 0) dX8_fewest_54 (q := 55) rfl (by decide) ?_
  refine j_callVv3 (M' := M_X8_goes) lk_X8_208 mv_X8_goes ob_70 (show nf + 2 + 1 ≤ 10 by omega) (Nat.le_of_ble_eq_true rfl) dX8_fewest_55 (q := 58) rfl (go_all (nc := nc) (D := D) (B := B) h7 h4 hm nf 0 (fun _ => 0) (fun _ => -1) (5, fun _ => -1) _ (by omega) hS1 (fun x hx => (up_nc (by decide)).trans (h81 x (by omega))) (fun _ _ => Nat.zero_le _) ⟨up_at, Nat.le_refl 5, fun q => absurd rfl q, fun j hj => absurd hj (by omega)⟩) ?_
  intro τ1 hz
  obtain ⟨_, hq, hO1⟩ := hz
  have hok : okF τ1 σ0 := ⟨fun x a b c d => (hO1.2.2.1 x a b c d).trans ((up_row a).trans (hO x d)), fun j hj => (hO1.2.2.2 j hj).trans ((up_nk hj).trans (congrFun (hO 70 (by decide)) j))⟩
  have h71 : τ1 71 = σ0 71 := hO1.own.trans ((up_row (by decide)).trans (hO 71 (by decide)))
  have h16 : τ1 70 16 = -1 := by have := hq.1; rw [if_pos (show (goP nc m D B nf 0 (fun _ => 0) (fun _ => -1) (5, fun _ => -1)).1 = 5 from h5)] at this; exact this
  refine j_aload_n dX8_fewest_58 (q := 59) rfl rfl ?_
  refine j_getIV fs_X8_205 rfl rfl h16 dX8_fewest_59 (q := 62) rfl ?_
  refine j_iconst (v := (-1)) dX8_fewest_62 (q := 63) rfl (by decide) ?_
  refine j_icmp_ne dX8_fewest_63 (t := 72) (by decide) (q := 66) rfl (fun c_63 => ?_) (fun c_63 => ?_)
  · skip
    exact absurd c_63 (by decide)
  · skip
    refine j_aload_n dX8_fewest_66 (q := 67) rfl rfl ?_
    refine j_iconst (v := 2) dX8_fewest_67 (q := 68) rfl (by decide) ?_
    refine j_callVi1E (M' := M_X8_error) lk_X8_63 mv_X8_error ob_70 (by decide) (Nat.le_of_ble_eq_true rfl) dX8_fewest_68 (q := 71) rfl (ct_err2) ?_
    refine j_ireti dX8_fewest_71 rfl ?_
    exact ⟨rfl, τ1, rfl, hok⟩
theorem ct_X8_fewest_none {g : GT} {σ : S_} {nf nc m : Nat} {D B : Nat → Nat} (h7 : nf ≤ 7) (h4 : nc ≤ 4) (hm : m ≤ 99) (hS : σ 71 5 = nI nf ∧ σ 71 6 = nI nc ∧ NB (σ 71) nf nc D B) {f : Int32} (hf : -1 ≤ f ∧ f ≤ 6) (h5 : (fewP nf nc m D B).1 = 5) : CT g 10 M_X8_fewest [.ref 70, .int (nI m), .int f] σ (fun r τ => r = .int (-1000000002) ∧ ∃ τ1, τ = rfm τ1 2 ∧ okF τ1 σ) := by
  refine ct_of [.ref 70, .int (nI m), .int f, .null] pn_X8_fewest rfl (Nat.le_of_ble_eq_true rfl) ?_
  refine j_iload_n dX8_fewest_0 (q := 1) rfl rfl ?_
  refine j_iconst (v := 0) dX8_fewest_1 (q := 2) rfl (by decide) ?_
  refine j_bipush (v := 99) dX8_fewest_2 (q := 4) rfl (by decide) ?_
  refine j_callSi3E (M' := M_X8_in) lk_X8_59 ms_X8_in (by decide) (Nat.le_of_ble_eq_true rfl) dX8_fewest_4 (q := 7) rfl (ct_X8_in) ?_
  refine j_ifeqB dX8_fewest_7 (t := 20) (by decide) (q := 10) rfl (fun c_7 => ?_) (fun c_7 => ?_)
  · skip
    refine j_iload_n dX8_fewest_10 (q := 11) rfl rfl ?_
    refine j_iconst (v := (-1)) dX8_fewest_11 (q := 12) rfl (by decide) ?_
    refine j_bipush (v := 6) dX8_fewest_12 (q := 14) rfl (by decide) ?_
    refine j_callSi3E (M' := M_X8_in) lk_X8_59 ms_X8_in (by decide) (Nat.le_of_ble_eq_true rfl) dX8_fewest_14 (q := 17) rfl (ct_X8_in) ?_
    refine j_ifneB dX8_fewest_17 (t := 26) (by decide) (q := 20) rfl (fun c_17 => ?_) (fun c_17 => ?_)
    · skip
      refine j_iconst (v := 0) dX8_fewest_26 (q := 27) rfl (by decide) ?_
      refine j_istore_n_4_3 dX8_fewest_27 (q := 28) rfl rfl rfl ?_
      exact fz_loop (σ0 := σ) (fun τ h81 hO => fe_none h7 h4 hm hS hf h5 h81 hO) 4 0 σ (by decide) (fun j hj => absurd hj (by omega)) (fun _ _ => rfl)
    · skip
      exact absurd hf c_17
  · skip
    exact absurd (inK (b := 99) (by omega) (by decide)) c_7
theorem fe_neg {g : GT} {σ0 σ : S_} {nf nc m : Nat} {D B : Nat → Nat} (h7 : nf ≤ 7) (h4 : nc ≤ 4) (hm : m ≤ 99) (hS : σ0 71 5 = nI nf ∧ σ0 71 6 = nI nc ∧ NB (σ0 71) nf nc D B) (h5 : (fewP nf nc m D B).1 ≤ 4) (h81 : ∀ j, j < 4 → σ 81 j = 0) (hO : ∀ x, x ≠ 81 → σ x = σ0 x) : J g 10 M_X8_fewest (fun r τ => r = .int (nI (fewP nf nc m D B).1) ∧ okF τ σ0) 46 [.ref 70, .int (nI m), .int (-1), .int (nI 4)] [] σ := by
  refine j_aload_n dX8_fewest_46 (q := 47) rfl rfl ?_
  refine j_iconst (v := (-1)) dX8_fewest_47 (q := 48) rfl (by decide) ?_
  refine j_putI fs_X8_205 rfl rfl fp_8_16 dX8_fewest_48 (q := 51) rfl ?_
  have hS1 : up σ 70 16 (-1) 71 5 = nI nf ∧ up σ 70 16 (-1) 71 6 = nI nc ∧ NB (up σ 70 16 (-1) 71) nf nc D B := by
    rw [show up σ 70 16 (-1) 71 = σ0 71 from (up_row (by decide)).trans (hO 71 (by decide))]
    exact hS
  refine j_aload_n dX8_fewest_51 (q := 52) rfl rfl ?_
  refine j_iconst (v := 0) dX8_fewest_52 (q := 53) rfl (by decide) ?_
  refine j_iload_n dX8_fewest_53 (q := 54) rfl rfl ?_
  refine j_iconst (v := 0) dX8_fewest_54 (q := 55) rfl (by decide) ?_
  refine j_callVv3 (M' := M_X8_goes) lk_X8_208 mv_X8_goes ob_70 (show nf + 2 + 1 ≤ 10 by omega) (Nat.le_of_ble_eq_true rfl) dX8_fewest_55 (q := 58) rfl (go_all (nc := nc) (D := D) (B := B) h7 h4 hm nf 0 (fun _ => 0) (fun _ => -1) (5, fun _ => -1) _ (by omega) hS1 (fun x hx => (up_nc (by decide)).trans (h81 x (by omega))) (fun _ _ => Nat.zero_le _) ⟨up_at, Nat.le_refl 5, fun q => absurd rfl q, fun j hj => absurd hj (by omega)⟩) ?_
  intro τ1 hz
  obtain ⟨_, hq, hO1⟩ := hz
  have hok : okF τ1 σ0 := ⟨fun x a b c d => (hO1.2.2.1 x a b c d).trans ((up_row a).trans (hO x d)), fun j hj => (hO1.2.2.2 j hj).trans ((up_nk hj).trans (congrFun (hO 70 (by decide)) j))⟩
  have h71 : τ1 71 = σ0 71 := hO1.own.trans ((up_row (by decide)).trans (hO 71 (by decide)))
  have h16 : τ1 70 16 = nI (fewP nf nc m D B).1 := by have := hq.1; rw [if_neg (show ¬ (goP nc m D B nf 0 (fun _ => 0) (fun _ => -1) (5, fun _ => -1)).1 = 5 from by have := h5; unfold fewP at this; omega)] at this; exact this
  have hne : ¬ nI (fewP nf nc m D B).1 = -1 := by rcases (show (fewP nf nc m D B).1 = 0 ∨ (fewP nf nc m D B).1 = 1 ∨ (fewP nf nc m D B).1 = 2 ∨ (fewP nf nc m D B).1 = 3 ∨ (fewP nf nc m D B).1 = 4 by omega) with q | q | q | q | q <;> (rw [q]; decide)
  refine j_aload_n dX8_fewest_58 (q := 59) rfl rfl ?_
  refine j_getIV fs_X8_205 rfl rfl h16 dX8_fewest_59 (q := 62) rfl ?_
  refine j_iconst (v := (-1)) dX8_fewest_62 (q := 63) rfl (by decide) ?_
  refine j_icmp_ne dX8_fewest_63 (t := 72) (by decide) (q := 66) rfl (fun c_63 => ?_) (fun c_63 => ?_)
  · skip
    refine j_iload_n dX8_fewest_72 (q := 73) rfl rfl ?_
    refine j_iconst (v := (-1)) dX8_fewest_73 (q := 74) rfl (by decide) ?_
    refine j_icmp_ne dX8_fewest_74 (t := 84) (by decide) (q := 77) rfl (fun c_74 => ?_) (fun c_74 => ?_)
    · skip
      exact absurd c_74 (by decide)
    · skip
      refine j_aload_n dX8_fewest_77 (q := 78) rfl rfl ?_
      refine j_getIV fs_X8_205 rfl rfl h16 dX8_fewest_78 (q := 81) rfl ?_
      refine j_goto (q := 104) dX8_fewest_81 (by decide) ?_
      refine j_ireti dX8_fewest_104 rfl ?_
      exact ⟨rfl, hok⟩
  · skip
    exact absurd c_63 hne
theorem ct_X8_fewest_neg {g : GT} {σ : S_} {nf nc m : Nat} {D B : Nat → Nat} (h7 : nf ≤ 7) (h4 : nc ≤ 4) (hm : m ≤ 99) (hS : σ 71 5 = nI nf ∧ σ 71 6 = nI nc ∧ NB (σ 71) nf nc D B) (h5 : (fewP nf nc m D B).1 ≤ 4) : CT g 10 M_X8_fewest [.ref 70, .int (nI m), .int (-1)] σ (fun r τ => r = .int (nI (fewP nf nc m D B).1) ∧ okF τ σ) := by
  refine ct_of [.ref 70, .int (nI m), .int (-1), .null] pn_X8_fewest rfl (Nat.le_of_ble_eq_true rfl) ?_
  refine j_iload_n dX8_fewest_0 (q := 1) rfl rfl ?_
  refine j_iconst (v := 0) dX8_fewest_1 (q := 2) rfl (by decide) ?_
  refine j_bipush (v := 99) dX8_fewest_2 (q := 4) rfl (by decide) ?_
  refine j_callSi3E (M' := M_X8_in) lk_X8_59 ms_X8_in (by decide) (Nat.le_of_ble_eq_true rfl) dX8_fewest_4 (q := 7) rfl (ct_X8_in) ?_
  refine j_ifeqB dX8_fewest_7 (t := 20) (by decide) (q := 10) rfl (fun c_7 => ?_) (fun c_7 => ?_)
  · skip
    refine j_iload_n dX8_fewest_10 (q := 11) rfl rfl ?_
    refine j_iconst (v := (-1)) dX8_fewest_11 (q := 12) rfl (by decide) ?_
    refine j_bipush (v := 6) dX8_fewest_12 (q := 14) rfl (by decide) ?_
    refine j_callSi3E (M' := M_X8_in) lk_X8_59 ms_X8_in (by decide) (Nat.le_of_ble_eq_true rfl) dX8_fewest_14 (q := 17) rfl (ct_X8_in) ?_
    refine j_ifneB dX8_fewest_17 (t := 26) (by decide) (q := 20) rfl (fun c_17 => ?_) (fun c_17 => ?_)
    · skip
      refine j_iconst (v := 0) dX8_fewest_26 (q := 27) rfl (by decide) ?_
      refine j_istore_n_4_3 dX8_fewest_27 (q := 28) rfl rfl rfl ?_
      exact fz_loop (σ0 := σ) (fun τ h81 hO => fe_neg h7 h4 hm hS h5 h81 hO) 4 0 σ (by decide) (fun j hj => absurd hj (by omega)) (fun _ _ => rfl)
    · skip
      exact absurd (by decide) c_17
  · skip
    exact absurd (inK (b := 99) (by omega) (by decide)) c_7
theorem fe_at {g : GT} {σ0 σ : S_} {nf nc m : Nat} {D B : Nat → Nat} (h7 : nf ≤ 7) (h4 : nc ≤ 4) (hm : m ≤ 99) (hS : σ0 71 5 = nI nf ∧ σ0 71 6 = nI nc ∧ NB (σ0 71) nf nc D B) {f : Nat} (hf : f < 7) (h5 : (fewP nf nc m D B).1 ≤ 4) (h81 : ∀ j, j < 4 → σ 81 j = 0) (hO : ∀ x, x ≠ 81 → σ x = σ0 x) : J g 10 M_X8_fewest (fun r τ => r = .int (if f < nf then (fewP nf nc m D B).2 f else -1) ∧ okF τ σ0) 46 [.ref 70, .int (nI m), .int (nI f), .int (nI 4)] [] σ := by
  refine j_aload_n dX8_fewest_46 (q := 47) rfl rfl ?_
  refine j_iconst (v := (-1)) dX8_fewest_47 (q := 48) rfl (by decide) ?_
  refine j_putI fs_X8_205 rfl rfl fp_8_16 dX8_fewest_48 (q := 51) rfl ?_
  have hS1 : up σ 70 16 (-1) 71 5 = nI nf ∧ up σ 70 16 (-1) 71 6 = nI nc ∧ NB (up σ 70 16 (-1) 71) nf nc D B := by
    rw [show up σ 70 16 (-1) 71 = σ0 71 from (up_row (by decide)).trans (hO 71 (by decide))]
    exact hS
  refine j_aload_n dX8_fewest_51 (q := 52) rfl rfl ?_
  refine j_iconst (v := 0) dX8_fewest_52 (q := 53) rfl (by decide) ?_
  refine j_iload_n dX8_fewest_53 (q := 54) rfl rfl ?_
  refine j_iconst (v := 0) dX8_fewest_54 (q := 55) rfl (by decide) ?_
  refine j_callVv3 (M' := M_X8_goes) lk_X8_208 mv_X8_goes ob_70 (show nf + 2 + 1 ≤ 10 by omega) (Nat.le_of_ble_eq_true rfl) dX8_fewest_55 (q := 58) rfl (go_all (nc := nc) (D := D) (B := B) h7 h4 hm nf 0 (fun _ => 0) (fun _ => -1) (5, fun _ => -1) _ (by omega) hS1 (fun x hx => (up_nc (by decide)).trans (h81 x (by omega))) (fun _ _ => Nat.zero_le _) ⟨up_at, Nat.le_refl 5, fun q => absurd rfl q, fun j hj => absurd hj (by omega)⟩) ?_
  intro τ1 hz
  obtain ⟨_, hq, hO1⟩ := hz
  have hok : okF τ1 σ0 := ⟨fun x a b c d => (hO1.2.2.1 x a b c d).trans ((up_row a).trans (hO x d)), fun j hj => (hO1.2.2.2 j hj).trans ((up_nk hj).trans (congrFun (hO 70 (by decide)) j))⟩
  have h71 : τ1 71 = σ0 71 := hO1.own.trans ((up_row (by decide)).trans (hO 71 (by decide)))
  have h16 : τ1 70 16 = nI (fewP nf nc m D B).1 := by have := hq.1; rw [if_neg (show ¬ (goP nc m D B nf 0 (fun _ => 0) (fun _ => -1) (5, fun _ => -1)).1 = 5 from by have := h5; unfold fewP at this; omega)] at this; exact this
  have hne : ¬ nI (fewP nf nc m D B).1 = -1 := by rcases (show (fewP nf nc m D B).1 = 0 ∨ (fewP nf nc m D B).1 = 1 ∨ (fewP nf nc m D B).1 = 2 ∨ (fewP nf nc m D B).1 = 3 ∨ (fewP nf nc m D B).1 = 4 by omega) with q | q | q | q | q <;> (rw [q]; decide)
  refine j_aload_n dX8_fewest_58 (q := 59) rfl rfl ?_
  refine j_getIV fs_X8_205 rfl rfl h16 dX8_fewest_59 (q := 62) rfl ?_
  refine j_iconst (v := (-1)) dX8_fewest_62 (q := 63) rfl (by decide) ?_
  refine j_icmp_ne dX8_fewest_63 (t := 72) (by decide) (q := 66) rfl (fun c_63 => ?_) (fun c_63 => ?_)
  · skip
    refine j_iload_n dX8_fewest_72 (q := 73) rfl rfl ?_
    refine j_iconst (v := (-1)) dX8_fewest_73 (q := 74) rfl (by decide) ?_
    refine j_icmp_ne dX8_fewest_74 (t := 84) (by decide) (q := 77) rfl (fun c_74 => ?_) (fun c_74 => ?_)
    · skip
      refine j_iload_n dX8_fewest_84 (q := 85) rfl rfl ?_
      refine j_aload_n dX8_fewest_85 (q := 86) rfl rfl ?_
      refine j_getR (r := 71) fs_X8_7 rfl rfl rfl dX8_fewest_86 (q := 89) rfl ?_
      refine j_iconst (v := 5) dX8_fewest_89 (q := 90) rfl (by decide) ?_
      refine j_ialdV (k := 5) rfl (by decide) ((congrFun h71 5).trans hS.1) dX8_fewest_90 (q := 91) rfl ?_
      refine j_icmp_geN (by omega) (by omega) dX8_fewest_91 (t := 103) (by decide) (q := 94) rfl (fun c_91 => ?_) (fun c_91 => ?_)
      · skip
        refine j_iconst (v := (-1)) dX8_fewest_103 (q := 104) rfl (by decide) ?_
        refine j_ireti dX8_fewest_104 rfl ?_
        refine ⟨congrArg Value.int ?_, hok⟩
        rw [if_neg (by omega)]
      · skip
        refine j_aload_n dX8_fewest_94 (q := 95) rfl rfl ?_
        refine j_getR (r := 80) fs_X8_37 rfl rfl rfl dX8_fewest_95 (q := 98) rfl ?_
        refine j_iload_n dX8_fewest_98 (q := 99) rfl rfl ?_
        refine j_ialdN rfl (by omega) dX8_fewest_99 (q := 100) rfl ?_
        refine j_goto (q := 104) dX8_fewest_100 (by decide) ?_
        refine j_ireti dX8_fewest_104 rfl ?_
        refine ⟨congrArg Value.int ?_, hok⟩
        rw [if_pos (by omega)]
        exact hq.2.2.1 (show ¬ (goP nc m D B nf 0 (fun _ => 0) (fun _ => -1) (5, fun _ => -1)).1 = 5 from by have := h5; unfold fewP at this; omega) f (by omega)
    · skip
      exact absurd (c_74 ▸ (inK (b := 6) (by omega) (by decide) : (0 : Int32) ≤ nI f ∧ nI f ≤ nI 6).1) (by decide)
  · skip
    exact absurd c_63 hne
theorem ct_X8_fewest_at {g : GT} {σ : S_} {nf nc m : Nat} {D B : Nat → Nat} (h7 : nf ≤ 7) (h4 : nc ≤ 4) (hm : m ≤ 99) (hS : σ 71 5 = nI nf ∧ σ 71 6 = nI nc ∧ NB (σ 71) nf nc D B) {f : Nat} (hf : f < 7) (h5 : (fewP nf nc m D B).1 ≤ 4) : CT g 10 M_X8_fewest [.ref 70, .int (nI m), .int (nI f)] σ (fun r τ => r = .int (if f < nf then (fewP nf nc m D B).2 f else -1) ∧ okF τ σ) := by
  refine ct_of [.ref 70, .int (nI m), .int (nI f), .null] pn_X8_fewest rfl (Nat.le_of_ble_eq_true rfl) ?_
  refine j_iload_n dX8_fewest_0 (q := 1) rfl rfl ?_
  refine j_iconst (v := 0) dX8_fewest_1 (q := 2) rfl (by decide) ?_
  refine j_bipush (v := 99) dX8_fewest_2 (q := 4) rfl (by decide) ?_
  refine j_callSi3E (M' := M_X8_in) lk_X8_59 ms_X8_in (by decide) (Nat.le_of_ble_eq_true rfl) dX8_fewest_4 (q := 7) rfl (ct_X8_in) ?_
  refine j_ifeqB dX8_fewest_7 (t := 20) (by decide) (q := 10) rfl (fun c_7 => ?_) (fun c_7 => ?_)
  · skip
    refine j_iload_n dX8_fewest_10 (q := 11) rfl rfl ?_
    refine j_iconst (v := (-1)) dX8_fewest_11 (q := 12) rfl (by decide) ?_
    refine j_bipush (v := 6) dX8_fewest_12 (q := 14) rfl (by decide) ?_
    refine j_callSi3E (M' := M_X8_in) lk_X8_59 ms_X8_in (by decide) (Nat.le_of_ble_eq_true rfl) dX8_fewest_14 (q := 17) rfl (ct_X8_in) ?_
    refine j_ifneB dX8_fewest_17 (t := 26) (by decide) (q := 20) rfl (fun c_17 => ?_) (fun c_17 => ?_)
    · skip
      refine j_iconst (v := 0) dX8_fewest_26 (q := 27) rfl (by decide) ?_
      refine j_istore_n_4_3 dX8_fewest_27 (q := 28) rfl rfl rfl ?_
      exact fz_loop (σ0 := σ) (fun τ h81 hO => fe_at h7 h4 hm hS hf h5 h81 hO) 4 0 σ (by decide) (fun j hj => absurd hj (by omega)) (fun _ _ => rfl)
    · skip
      exact absurd ⟨Int32.le_trans (by decide) (inK (b := 6) (by omega) (by decide) : (0 : Int32) ≤ nI f ∧ nI f ≤ nI 6).1, (inK (b := 6) (by omega) (by decide) : (0 : Int32) ≤ nI f ∧ nI f ≤ nI 6).2⟩ c_17
  · skip
    exact absurd (inK (b := 99) (by omega) (by decide)) c_7
