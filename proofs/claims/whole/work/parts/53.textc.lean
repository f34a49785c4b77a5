abbrev PT0 : PT := (0, 0, fun _ => 0, fun _ => 0)
/-- what the parser finds: good, and where it stands -/
def QX (B : Nat → Nat) (L u : Nat) : Bool × PT := pRk B L (pOn B L u 5) 5 PT0
theorem QX_q {B : Nat → Nat} {L u : Nat} (hu : u < 2) : PQ L u PT0 (QX B L u) := PQ_Rk (PQ_On hu 5) 5 PT0 (Nat.zero_le _)
theorem ct_namesN {g : GT} {σ : S_} {u : Nat} (hu : u < 2) : CT g 0 M_X7_namesOf [.int (nI u)] σ (EQ (.ref (100 + (u + 1))) σ) := by
  have h := ct_X7_namesOf (g := g) (σ := σ) (u := nI u)
  rcases (show u = 0 ∨ u = 1 by omega) with rfl | rfl
  · exact h
  · exact h
theorem mm60 {L : Nat} (hL : L ≤ 60) : (if (0 : Int32) < (if (if (60 : Int32) < nI 60 then (60 : Int32) else nI 60) < nI L then (if (60 : Int32) < nI 60 then (60 : Int32) else nI 60) else nI L) then (if (if (60 : Int32) < nI 60 then (60 : Int32) else nI 60) < nI L then (if (60 : Int32) < nI 60 then (60 : Int32) else nI 60) else nI L) else 0) = nI L := by
  have e1 : (if (60 : Int32) < nI 60 then (60 : Int32) else nI 60) = nI 60 := rfl
  have e2 : (if nI 60 < nI L then nI 60 else nI L) = nI L := if_neg (fun q => by have := (nI_lt_iff (a := 60) (b := L) (by decide) (by omega)).mp q; omega)
  rw [e1, e2]
  by_cases h : 0 < L
  · exact if_pos ((nI_pos_iff hL).mpr h)
  · rw [if_neg (fun q => h ((nI_pos_iff hL).mp q))]
    rw [show L = 0 by omega]
    rfl
theorem fo_loop {g : GT} {B : Nat → Nat} {L u : Nat} (hL : L ≤ 60) (hB : ∀ j, j < L → B j < 256) (hu : u < 2) {σ0 : S_} (hT : ∀ j, j < L → (σ0 13 j).toInt8.toInt32 &&& 255 = nI (B j)) : ∀ (k i : Nat) (σ : S_), i + k = L → σ 54 2 = nI L → (∀ j, j < i → σ 55 j = nI (B j)) → (∀ x, x ≠ 54 → x ≠ 55 → σ x = σ0 x) → J g 53 M_X1_faultOf (fun r τ => r = .int (if (QX B L u).1 = true ∧ (QX B L u).2.1 = L then -1 else nI (QX B L u).2.1) ∧ RI B L u τ (QX B L u).2 ∧ ∀ x, x ≠ 54 → x ≠ 55 → x ≠ 56 → x ≠ 57 → x ≠ 58 → τ x = σ0 x) 22 [.ref 54, .ref 13, .int (nI L), .ref (100 + (u + 1)), .int (nI i)] [] σ := by
  intro k
  induction k with
  | zero =>
    intro i σ hik hl hb hO
    refine j_iload dX1_faultOf_22 (q := 24) rfl rfl ?_
    refine j_aload_n dX1_faultOf_24 (q := 25) rfl rfl ?_
    refine j_getIV fs_X1_37 rfl rfl hl dX1_faultOf_25 (q := 28) rfl ?_
    refine j_icmp_geN (by omega) (by omega) dX1_faultOf_28 (t := 52) (by decide) (q := 31) rfl (fun c_28 => ?_) (fun c_28 => ?_)
    · skip
      refine j_aload_n dX1_faultOf_52 (q := 53) rfl rfl ?_
      refine j_iconst (v := 0) dX1_faultOf_53 (q := 54) rfl (by decide) ?_
      refine j_putI fs_X1_41 rfl rfl fp_1_3 dX1_faultOf_54 (q := 57) rfl ?_
      refine j_aload_n dX1_faultOf_57 (q := 58) rfl rfl ?_
      refine j_aload_n dX1_faultOf_58 (q := 59) rfl rfl ?_
      refine j_putS fs_X1_24 rfl rfl (i := u + 1) (by omega) fp_1_4 dX1_faultOf_59 (q := 62) rfl ?_
      refine j_aload_n dX1_faultOf_62 (q := 63) rfl rfl ?_
      refine j_getR (r := 56) fs_X1_12 rfl rfl rfl dX1_faultOf_63 (q := 66) rfl ?_
      refine j_callVv0E (M' := M_X3_clear) lk_X1_44 mv_X3_clear ob_56 (by decide) (Nat.le_of_ble_eq_true rfl) dX1_faultOf_66 (q := 69) rfl (ct_X3_clear (t := 56) (.inr (.inr (.inr (.inr rfl))))) ?_
      have hR0 : RI B L u (up (up (up σ 54 3 0) 54 4 (nI (u + 1))) 56 3 0) PT0 := ⟨(up_nc (by decide)).trans ((up_nk (by decide)).trans up_at), (up_nc (by decide)).trans ((up_nk (by decide)).trans ((up_nk (by decide)).trans hl)), fun j hj => (up_nc (by decide)).trans ((up_nc (by decide)).trans ((up_nc (by decide)).trans (hb j (by omega)))), up_at, fun j hj => absurd hj (Nat.not_lt_zero j), (up_nc (by decide)).trans up_at⟩
      refine j_aload_n dX1_faultOf_69 (q := 70) rfl rfl ?_
      refine j_iconst (v := 0) dX1_faultOf_70 (q := 71) rfl (by decide) ?_
      refine j_iconst (v := 0) dX1_faultOf_71 (q := 72) rfl (by decide) ?_
      refine j_callVi2 (M' := M_X1_readRank) lk_X1_47 mv_X1_readRank ob_54 (by decide) (Nat.le_of_ble_eq_true rfl) dX1_faultOf_72 (q := 75) rfl (rr_all hL hB hu (ro_all hL hB hu 5) 5 0 0 rfl rfl PT0 _ (Nat.zero_le _) (Nat.zero_le _) hR0) ?_
      intro x1 τ1 hz1
      obtain ⟨z1, hR1, hF1⟩ := hz1
      cases z1
      have hq2 := (QX_q (B := B) (L := L) hu).1.2.1
      change RI B L u τ1 (QX B L u).2 at hR1
      have e75 : ((pRk B L (pOn B L u 5) 5 PT0).1 = true) = ((QX B L u).1 = true) := rfl
      refine j_ifeqB dX1_faultOf_75 (t := 93) (by decide) (q := 78) rfl (fun c_75 => ?_) (fun c_75 => ?_)
      · skip
        refine j_aload_n dX1_faultOf_78 (q := 79) rfl rfl ?_
        refine j_getIV fs_X1_41 rfl rfl hR1.1 dX1_faultOf_79 (q := 82) rfl ?_
        refine j_aload_n dX1_faultOf_82 (q := 83) rfl rfl ?_
        refine j_getIV fs_X1_37 rfl rfl hR1.2.1 dX1_faultOf_83 (q := 86) rfl ?_
        refine j_icmp_neN (by omega) (by omega) dX1_faultOf_86 (t := 93) (by decide) (q := 89) rfl (fun c_86 => ?_) (fun c_86 => ?_)
        · skip
          refine j_aload_n dX1_faultOf_93 (q := 94) rfl rfl ?_
          refine j_getIV fs_X1_41 rfl rfl hR1.1 dX1_faultOf_94 (q := 97) rfl ?_
          refine j_ireti dX1_faultOf_97 rfl ?_
          refine ⟨congrArg Value.int (if_neg (fun q : _ ∧ _ => c_86 q.2)).symm, hR1, fun x a b c d e => (hF1 x a c d e).trans ((up_row c).trans ((up_row a).trans ((up_row a).trans (hO x a b))))⟩
        · skip
          refine j_iconst (v := (-1)) dX1_faultOf_89 (q := 90) rfl (by decide) ?_
          refine j_goto (q := 97) dX1_faultOf_90 (by decide) ?_
          refine j_ireti dX1_faultOf_97 rfl ?_
          refine ⟨congrArg Value.int (if_pos ⟨c_75, c_86⟩).symm, hR1, fun x a b c d e => (hF1 x a c d e).trans ((up_row c).trans ((up_row a).trans ((up_row a).trans (hO x a b))))⟩
      · skip
        refine j_aload_n dX1_faultOf_93 (q := 94) rfl rfl ?_
        refine j_getIV fs_X1_41 rfl rfl hR1.1 dX1_faultOf_94 (q := 97) rfl ?_
        refine j_ireti dX1_faultOf_97 rfl ?_
        refine ⟨congrArg Value.int (if_neg (fun q : _ ∧ _ => c_75 q.1)).symm, hR1, fun x a b c d e => (hF1 x a c d e).trans ((up_row c).trans ((up_row a).trans ((up_row a).trans (hO x a b))))⟩
    · skip
      omega
  | succ k ih =>
    intro i σ hik hl hb hO
    refine j_iload dX1_faultOf_22 (q := 24) rfl rfl ?_
    refine j_aload_n dX1_faultOf_24 (q := 25) rfl rfl ?_
    refine j_getIV fs_X1_37 rfl rfl hl dX1_faultOf_25 (q := 28) rfl ?_
    refine j_icmp_geN (by omega) (by omega) dX1_faultOf_28 (t := 52) (by decide) (q := 31) rfl (fun c_28 => ?_) (fun c_28 => ?_)
    · skip
      omega
    · skip
      refine j_aload_n dX1_faultOf_31 (q := 32) rfl rfl ?_
      refine j_getR (r := 55) fs_X1_18 rfl rfl rfl dX1_faultOf_32 (q := 35) rfl ?_
      refine j_iload dX1_faultOf_35 (q := 37) rfl rfl ?_
      refine j_aload_n dX1_faultOf_37 (q := 38) rfl rfl ?_
      refine j_iload dX1_faultOf_38 (q := 40) rfl rfl ?_
      refine j_baldN rfl (by omega) dX1_faultOf_40 (q := 41) rfl ?_
      refine j_sipush (v := 255) dX1_faultOf_41 (q := 44) rfl (by decide) ?_
      refine j_iand dX1_faultOf_44 (q := 45) rfl ?_
      rw [hO 13 (by decide) (by decide), hT i (by omega)]
      refine j_iastN rfl (by omega) dX1_faultOf_45 (q := 46) rfl ?_
      refine j_iincN_5_4 dX1_faultOf_46 (q := 49) rfl rfl rfl ?_
      refine j_goto (q := 22) dX1_faultOf_49 (by decide) ?_
      refine ih (i + 1) _ (by omega) ((up_nc (by decide)).trans hl) (fun j hj => ?_) (fun x a b => (up_row b).trans (hO x a b))
      by_cases q : j = i
      · subst q; exact up_at
      · exact (up_nk q).trans (hb j (by omega))
theorem ct_X1_faultOf {g : GT} {σ : S_} {B : Nat → Nat} {L u : Nat} (hL : L ≤ 60) (hB : ∀ j, j < L → B j < 256) (hu : u < 2) (hT : ∀ j, j < L → (σ 13 j).toInt8.toInt32 &&& 255 = nI (B j)) : CT g 53 M_X1_faultOf [.ref 54, .ref 13, .int (nI L), .ref (100 + (u + 1))] σ (fun r τ => r = .int (if (QX B L u).1 = true ∧ (QX B L u).2.1 = L then -1 else nI (QX B L u).2.1) ∧ RI B L u τ (QX B L u).2 ∧ ∀ x, x ≠ 54 → x ≠ 55 → x ≠ 56 → x ≠ 57 → x ≠ 58 → τ x = σ x) := by
  refine ct_of [.ref 54, .ref 13, .int (nI L), .ref (100 + (u + 1)), .null] pn_X1_faultOf rfl (Nat.le_of_ble_eq_true rfl) ?_
  refine j_aload_n dX1_faultOf_0 (q := 1) rfl rfl ?_
  refine j_iconst (v := 0) dX1_faultOf_1 (q := 2) rfl (by decide) ?_
  refine j_iload_n dX1_faultOf_2 (q := 3) rfl rfl ?_
  refine j_aload_n dX1_faultOf_3 (q := 4) rfl rfl ?_
  refine j_alen (n := 60) (.inr (.inl rfl)) dX1_faultOf_4 (q := 5) rfl ?_
  refine j_bipush (v := 60) dX1_faultOf_5 (q := 7) rfl (by decide) ?_
  refine j_mmin lkm_X1_28 ma_min_s ma_i ma_min_c (by decide) (Nat.le_of_ble_eq_true rfl) dX1_faultOf_7 (q := 10) rfl ?_
  refine j_mmin lkm_X1_28 ma_min_s ma_i ma_min_c (by decide) (Nat.le_of_ble_eq_true rfl) dX1_faultOf_10 (q := 13) rfl ?_
  refine j_mmax lkm_X1_34 ma_max_s ma_i ma_max_c (by decide) (Nat.le_of_ble_eq_true rfl) dX1_faultOf_13 (q := 16) rfl ?_
  rw [mm60 hL]
  refine j_putI fs_X1_37 rfl rfl fp_1_2 dX1_faultOf_16 (q := 19) rfl ?_
  refine j_iconst (v := 0) dX1_faultOf_19 (q := 20) rfl (by decide) ?_
  refine j_istore_5_4 dX1_faultOf_20 (q := 22) rfl rfl rfl ?_
  exact fo_loop hL hB hu hT L 0 _ (by omega) up_at (fun j hj => absurd hj (Nat.not_lt_zero j)) (fun x a b => up_row a)
theorem ct_X7_text_no {g : GT} {σ : S_} {u : Int32} (h : ¬ (u = 0 ∨ u = 1)) : CT g 2 M_X7_text [.ref 0, .int u] σ (EQ (.int (-1000000001)) (rfz σ 1)) := by
  refine ct_of [.ref 0, .int u, .null] pn_X7_text rfl (Nat.le_of_ble_eq_true rfl) ?_
  refine j_iload_n dX7_text_0 (q := 1) rfl rfl ?_
  refine j_callSi1E (M' := M_X7_isUse) lk_X7_155 ms_X7_isUse (by decide) (Nat.le_of_ble_eq_true rfl) dX7_text_1 (q := 4) rfl (ct_X7_isUse) ?_
  refine j_ifneB dX7_text_4 (t := 13) (by decide) (q := 7) rfl (fun c_4 => ?_) (fun c_4 => ?_)
  · skip
    exact absurd c_4 h
  · skip
    refine j_aload_n dX7_text_7 (q := 8) rfl rfl ?_
    refine j_iconst (v := 1) dX7_text_8 (q := 9) rfl (by decide) ?_
    refine j_callVi1E (M' := M_X7_refuse) lk_X7_61 mv_X7_refuse ob_0 (by decide) (Nat.le_of_ble_eq_true rfl) dX7_text_9 (q := 12) rfl (ct_ref1) ?_
    refine j_ireti dX7_text_12 rfl ?_
    exact ⟨rfl, rfl⟩
theorem ct_X8_text_no {g : GT} {σ : S_} {u : Int32} (h : ¬ (0 ≤ u ∧ u ≤ 1)) : CT g 2 M_X8_text [.ref 70, .int u] σ (EQ (.int (-1000000001)) (rfm σ 1)) := by
  refine ct_of [.ref 70, .int u, .null, .null, .null] pn_X8_text rfl (Nat.le_of_ble_eq_true rfl) ?_
  refine j_iload_n dX8_text_0 (q := 1) rfl rfl ?_
  refine j_iconst (v := 0) dX8_text_1 (q := 2) rfl (by decide) ?_
  refine j_iconst (v := 1) dX8_text_2 (q := 3) rfl (by decide) ?_
  refine j_callSi3E (M' := M_X8_in) lk_X8_59 ms_X8_in (by decide) (Nat.le_of_ble_eq_true rfl) dX8_text_3 (q := 6) rfl (ct_X8_in) ?_
  refine j_ifneB dX8_text_6 (t := 15) (by decide) (q := 9) rfl (fun c_6 => ?_) (fun c_6 => ?_)
  · skip
    exact absurd c_6 h
  · skip
    refine j_aload_n dX8_text_9 (q := 10) rfl rfl ?_
    refine j_iconst (v := 1) dX8_text_10 (q := 11) rfl (by decide) ?_
    refine j_callVi1E (M' := M_X8_error) lk_X8_63 mv_X8_error ob_70 (by decide) (Nat.le_of_ble_eq_true rfl) dX8_text_11 (q := 14) rfl (ct_err1) ?_
    refine j_ireti dX8_text_14 rfl ?_
    exact ⟨rfl, rfl⟩
theorem us2 {u : Nat} (hu : u < 2) : nI u = 0 ∨ nI u = 1 := by
  rcases (show u = 0 ∨ u = 1 by omega) with rfl | rfl
  · exact .inl rfl
  · exact .inr rfl
theorem rf_text {u : Nat} (hu : u < 2) : rf 14 u = 23 + 4 * u := by rcases (show u = 0 ∨ u = 1 by omega) with rfl | rfl <;> rfl
theorem ct_X7_text_good {g : GT} {σ : S_} {B : Nat → Nat} {L u : Nat} (hL : L ≤ 60) (hB : ∀ j, j < L → B j < 256) (hu : u < 2) (e : σ 8 10 = nI L) (hT : ∀ j, j < L → (σ 13 j).toInt8.toInt32 &&& 255 = nI (B j)) (hg : (QX B L u).1 = true ∧ (QX B L u).2.1 = L) : CT g 54 M_X7_text [.ref 0, .int (nI u)] σ (fun r τ => r = .int 1 ∧ ∃ τ1, RI B L u τ1 (QX B L u).2 ∧ (∀ x, x ≠ 54 → x ≠ 55 → x ≠ 56 → x ≠ 57 → x ≠ 58 → τ1 x = σ x) ∧ τ = txcp (up τ1 8 10 0) (23 + 4 * u) 56) := by
  have hq2 := (QX_q (B := B) (L := L) hu).1.2.1
  refine ct_of [.ref 0, .int (nI u), .null] pn_X7_text rfl (Nat.le_of_ble_eq_true rfl) ?_
  refine j_iload_n dX7_text_0 (q := 1) rfl rfl ?_
  refine j_callSi1E (M' := M_X7_isUse) lk_X7_155 ms_X7_isUse (by decide) (Nat.le_of_ble_eq_true rfl) dX7_text_1 (q := 4) rfl (ct_X7_isUse) ?_
  refine j_ifneB dX7_text_4 (t := 13) (by decide) (q := 7) rfl (fun c_4 => ?_) (fun c_4 => ?_)
  · skip
    refine j_aload_n dX7_text_13 (q := 14) rfl rfl ?_
    refine j_getR (r := 54) fs_X7_31 rfl rfl rfl dX7_text_14 (q := 17) rfl ?_
    refine j_aload_n dX7_text_17 (q := 18) rfl rfl ?_
    refine j_getR (r := 8) fs_X7_10 rfl rfl rfl dX7_text_18 (q := 21) rfl ?_
    refine j_getR (r := 13) fs_X7_151 rfl rfl rfl dX7_text_21 (q := 24) rfl ?_
    refine j_aload_n dX7_text_24 (q := 25) rfl rfl ?_
    refine j_getR (r := 8) fs_X7_10 rfl rfl rfl dX7_text_25 (q := 28) rfl ?_
    refine j_getIV fs_X7_148 rfl rfl e dX7_text_28 (q := 31) rfl ?_
    refine j_iload_n dX7_text_31 (q := 32) rfl rfl ?_
    refine j_callSr1E (M' := M_X7_namesOf) lk_X7_158 ms_X7_namesOf (by decide) (Nat.le_of_ble_eq_true rfl) dX7_text_32 (q := 35) rfl (ct_namesN hu) ?_
    refine j_callVi3 (M' := M_X1_faultOf) lk_X7_162 mv_X1_faultOf ob_54 (by decide) (Nat.le_of_ble_eq_true rfl) dX7_text_35 (q := 38) rfl (ct_X1_faultOf hL hB hu hT) ?_
    intro x1 τ1 hz1
    obtain ⟨z1, hR1, hF1⟩ := hz1
    rw [if_pos hg] at z1
    cases z1
    refine j_istore_n_3_2 dX7_text_38 (q := 39) rfl rfl rfl ?_
    refine j_aload_n dX7_text_39 (q := 40) rfl rfl ?_
    refine j_getR (r := 8) fs_X7_10 rfl rfl rfl dX7_text_40 (q := 43) rfl ?_
    refine j_iconst (v := 0) dX7_text_43 (q := 44) rfl (by decide) ?_
    refine j_putI fs_X7_148 rfl rfl fp_6_10 dX7_text_44 (q := 47) rfl ?_
    refine j_iload_n dX7_text_47 (q := 48) rfl rfl ?_
    refine j_if_lt dX7_text_48 (t := 56) (by decide) (q := 51) rfl (fun c_48 => ?_) (fun c_48 => ?_)
    · skip
      refine j_aload_n dX7_text_56 (q := 57) rfl rfl ?_
      refine j_getR (r := 8) fs_X7_10 rfl rfl rfl dX7_text_57 (q := 60) rfl ?_
      refine j_getR (r := 14) fs_X7_166 rfl rfl rfl dX7_text_60 (q := 63) rfl ?_
      refine j_iload_n dX7_text_63 (q := 64) rfl rfl ?_
      refine j_aaldN rfl (by omega) (rf_text hu) dX7_text_64 (q := 65) rfl ?_
      refine j_aload_n dX7_text_65 (q := 66) rfl rfl ?_
      refine j_getR (r := 54) fs_X7_31 rfl rfl rfl dX7_text_66 (q := 69) rfl ?_
      refine j_getR (r := 56) fs_X7_170 rfl rfl rfl dX7_text_69 (q := 72) rfl ?_
      refine j_callVv1E (M' := M_X3_copyFrom) lk_X7_174 mv_X3_copyFrom (ob_of (TX_8 hu).o rfl) (by decide) (Nat.le_of_ble_eq_true rfl) dX7_text_72 (q := 75) rfl (ct_X3_copyFrom (TX_8 hu) (t := 23 + 4 * u) (s := 56) (.inr (.inr (.inr (.inr rfl))))) ?_
      refine j_iconst (v := 1) dX7_text_75 (q := 76) rfl (by decide) ?_
      refine j_ireti dX7_text_76 rfl ?_
      exact ⟨rfl, τ1, hR1, hF1, rfl⟩
    · skip
      exact absurd (by decide) c_48
  · skip
    exact absurd (us2 hu) c_4
theorem ct_X7_text_bad {g : GT} {σ : S_} {B : Nat → Nat} {L u : Nat} (hL : L ≤ 60) (hB : ∀ j, j < L → B j < 256) (hu : u < 2) (e : σ 8 10 = nI L) (hT : ∀ j, j < L → (σ 13 j).toInt8.toInt32 &&& 255 = nI (B j)) (hg : ¬ ((QX B L u).1 = true ∧ (QX B L u).2.1 = L)) : CT g 54 M_X7_text [.ref 0, .int (nI u)] σ (fun r τ => r = .int (-10 - nI (QX B L u).2.1) ∧ ∃ τ1, (∀ x, x ≠ 54 → x ≠ 55 → x ≠ 56 → x ≠ 57 → x ≠ 58 → τ1 x = σ x) ∧ τ = up τ1 8 10 0) := by
  have hq2 := (QX_q (B := B) (L := L) hu).1.2.1
  refine ct_of [.ref 0, .int (nI u), .null] pn_X7_text rfl (Nat.le_of_ble_eq_true rfl) ?_
  refine j_iload_n dX7_text_0 (q := 1) rfl rfl ?_
  refine j_callSi1E (M' := M_X7_isUse) lk_X7_155 ms_X7_isUse (by decide) (Nat.le_of_ble_eq_true rfl) dX7_text_1 (q := 4) rfl (ct_X7_isUse) ?_
  refine j_ifneB dX7_text_4 (t := 13) (by decide) (q := 7) rfl (fun c_4 => ?_) (fun c_4 => ?_)
  · skip
    refine j_aload_n dX7_text_13 (q := 14) rfl rfl ?_
    refine j_getR (r := 54) fs_X7_31 rfl rfl rfl dX7_text_14 (q := 17) rfl ?_
    refine j_aload_n dX7_text_17 (q := 18) rfl rfl ?_
    refine j_getR (r := 8) fs_X7_10 rfl rfl rfl dX7_text_18 (q := 21) rfl ?_
    refine j_getR (r := 13) fs_X7_151 rfl rfl rfl dX7_text_21 (q := 24) rfl ?_
    refine j_aload_n dX7_text_24 (q := 25) rfl rfl ?_
    refine j_getR (r := 8) fs_X7_10 rfl rfl rfl dX7_text_25 (q := 28) rfl ?_
    refine j_getIV fs_X7_148 rfl rfl e dX7_text_28 (q := 31) rfl ?_
    refine j_iload_n dX7_text_31 (q := 32) rfl rfl ?_
    refine j_callSr1E (M' := M_X7_namesOf) lk_X7_158 ms_X7_namesOf (by decide) (Nat.le_of_ble_eq_true rfl) dX7_text_32 (q := 35) rfl (ct_namesN hu) ?_
    refine j_callVi3 (M' := M_X1_faultOf) lk_X7_162 mv_X1_faultOf ob_54 (by decide) (Nat.le_of_ble_eq_true rfl) dX7_text_35 (q := 38) rfl (ct_X1_faultOf hL hB hu hT) ?_
    intro x1 τ1 hz1
    obtain ⟨z1, hR1, hF1⟩ := hz1
    rw [if_neg hg] at z1
    cases z1
    refine j_istore_n_3_2 dX7_text_38 (q := 39) rfl rfl rfl ?_
    refine j_aload_n dX7_text_39 (q := 40) rfl rfl ?_
    refine j_getR (r := 8) fs_X7_10 rfl rfl rfl dX7_text_40 (q := 43) rfl ?_
    refine j_iconst (v := 0) dX7_text_43 (q := 44) rfl (by decide) ?_
    refine j_putI fs_X7_148 rfl rfl fp_6_10 dX7_text_44 (q := 47) rfl ?_
    refine j_iload_n dX7_text_47 (q := 48) rfl rfl ?_
    refine j_if_ltN (by omega) dX7_text_48 (t := 56) (by decide) (q := 51) rfl (fun c_48 => ?_) (fun c_48 => ?_)
    · skip
      omega
    · skip
      refine j_bipush (v := (-10)) dX7_text_51 (q := 53) rfl (by decide) ?_
      refine j_iload_n dX7_text_53 (q := 54) rfl rfl ?_
      refine j_isub dX7_text_54 (q := 55) rfl ?_
      refine j_ireti dX7_text_55 rfl ?_
      exact ⟨rfl, τ1, hF1, rfl⟩
  · skip
    exact absurd (us2 hu) c_4
theorem tx_loop {g : GT} {d u n : Nat} (hu : u < 2) (hn : n ≤ 60) {τ1 : S_} (h7 : τ1 70 7 = nI n) : ∀ (k i : Nat) (σ : S_), i + k = 2 * n → (∀ x, x ≠ 71 → σ x = τ1 x) → (∀ j, j < i → σ 71 (60 + 125 * u + 1 + j) = τ1 75 j) → (∀ k, ¬ (60 + 125 * u + 1 ≤ k ∧ k < 60 + 125 * u + 1 + i) → σ 71 k = upd (upd (τ1 71) 3 0) (60 + 125 * u) (nI n) k) → J g d M_X8_text (fun r τ => r = .int 1 ∧ (∀ x, x ≠ 71 → τ x = τ1 x) ∧ (∀ j, j < 2 * n → τ 71 (60 + 125 * u + 1 + j) = τ1 75 j) ∧ ∀ k, ¬ (60 + 125 * u + 1 ≤ k ∧ k < 60 + 125 * u + 1 + 2 * n) → τ 71 k = upd (upd (τ1 71) 3 0) (60 + 125 * u) (nI n) k) 101 [.ref 70, .int (nI u), .int 1, .int (nI (60 + 125 * u)), .int (nI i)] [] σ := by
  intro k
  induction k with
  | zero =>
    intro i σ hik hO hw hk
    refine j_iload dX8_text_101 (q := 103) rfl rfl ?_
    refine j_iconst (v := 2) dX8_text_103 (q := 104) rfl (by decide) ?_
    refine j_aload_n dX8_text_104 (q := 105) rfl rfl ?_
    refine j_getIV fs_X8_76 rfl rfl ((congrFun (hO 70 (by decide)) 7).trans h7) dX8_text_105 (q := 108) rfl ?_
    refine j_imulN (a := 2) dX8_text_108 (q := 109) rfl ?_
    refine j_icmp_geN (by omega) (by omega) dX8_text_109 (t := 136) (by decide) (q := 112) rfl (fun c_109 => ?_) (fun c_109 => ?_)
    · skip
      refine j_iconst (v := 1) dX8_text_136 (q := 137) rfl (by decide) ?_
      refine j_ireti dX8_text_137 rfl ?_
      obtain rfl : i = 2 * n := by omega
      exact ⟨rfl, hO, hw, hk⟩
    · skip
      omega
  | succ k ih =>
    intro i σ hik hO hw hk
    refine j_iload dX8_text_101 (q := 103) rfl rfl ?_
    refine j_iconst (v := 2) dX8_text_103 (q := 104) rfl (by decide) ?_
    refine j_aload_n dX8_text_104 (q := 105) rfl rfl ?_
    refine j_getIV fs_X8_76 rfl rfl ((congrFun (hO 70 (by decide)) 7).trans h7) dX8_text_105 (q := 108) rfl ?_
    refine j_imulN (a := 2) dX8_text_108 (q := 109) rfl ?_
    refine j_icmp_geN (by omega) (by omega) dX8_text_109 (t := 136) (by decide) (q := 112) rfl (fun c_109 => ?_) (fun c_109 => ?_)
    · skip
      omega
    · skip
      refine j_aload_n dX8_text_112 (q := 113) rfl rfl ?_
      refine j_getR (r := 71) fs_X8_7 rfl rfl rfl dX8_text_113 (q := 116) rfl ?_
      refine j_iload_n dX8_text_116 (q := 117) rfl rfl ?_
      refine j_iconst (v := 1) dX8_text_117 (q := 118) rfl (by decide) ?_
      refine j_iaddN (b := 1) dX8_text_118 (q := 119) rfl ?_
      refine j_iload dX8_text_119 (q := 121) rfl rfl ?_
      refine j_iaddN dX8_text_121 (q := 122) rfl ?_
      refine j_aload_n dX8_text_122 (q := 123) rfl rfl ?_
      refine j_getR (r := 75) fs_X8_22 rfl rfl rfl dX8_text_123 (q := 126) rfl ?_
      refine j_iload dX8_text_126 (q := 128) rfl rfl ?_
      refine j_ialdN rfl (by omega) dX8_text_128 (q := 129) rfl ?_
      rw [hO 75 (by decide)]
      refine j_iastN rfl (by omega) dX8_text_129 (q := 130) rfl ?_
      refine j_iincN_5_4 dX8_text_130 (q := 133) rfl rfl rfl ?_
      refine j_goto (q := 101) dX8_text_133 (by decide) ?_
      refine ih (i + 1) _ (by omega) (fun x a => (up_row a).trans (hO x a)) (fun j hj => ?_) (fun k hh => (up_nk (by omega)).trans (hk k (by omega)))
      by_cases q : j = i
      · subst q; exact up_at
      · exact (up_nk (by omega)).trans (hw j (by omega))
theorem ct_X8_text_good {g : GT} {σ : S_} {B : Nat → Nat} {L u : Nat} (hL : L ≤ 60) (hB : ∀ j, j < L → B j < 256) (hu : u < 2) (e : σ 71 3 = nI L) (hT : ∀ j, j < L → σ 71 (310 + j) = nI (B j)) (hg : (QX B L u).1 = true ∧ (QX B L u).2.1 = L) : CT g 54 M_X8_text [.ref 70, .int (nI u)] σ (fun r τ => ∃ τ1, RK B L u τ1 (QX B L u).2 ∧ (∀ x, x ≠ 70 → x ≠ 75 → τ1 x = σ x) ∧ (∀ k, k ≠ 5 → k ≠ 6 → k ≠ 7 → k ≠ 8 → τ1 70 k = σ 70 k) ∧ (fun r τ => r = .int 1 ∧ (∀ x, x ≠ 71 → τ x = τ1 x) ∧ (∀ j, j < 2 * (QX B L u).2.2.1 → τ 71 (60 + 125 * u + 1 + j) = τ1 75 j) ∧ ∀ k, ¬ (60 + 125 * u + 1 ≤ k ∧ k < 60 + 125 * u + 1 + 2 * (QX B L u).2.2.1) → τ 71 k = upd (upd (τ1 71) 3 0) (60 + 125 * u) (nI (QX B L u).2.2.1) k) r τ) := by
  have hq2 := (QX_q (B := B) (L := L) hu).1.2.1
  have hq4 := (QX_q (B := B) (L := L) hu).1.2.2.2.1
  replace hq4 : (QX B L u).2.2.1 + 0 ≤ (QX B L u).2.1 + 0 := hq4
  have hR0 : RK B L u (up (up (up (up σ 70 8 (nI u)) 70 5 0) 70 6 0) 70 7 0) PT0 := ⟨(up_nk (by decide)).trans ((up_nk (by decide)).trans up_at), (up_nc (by decide)).trans ((up_nc (by decide)).trans ((up_nc (by decide)).trans ((up_nc (by decide)).trans e))), fun j hj => (up_nc (by decide)).trans ((up_nc (by decide)).trans ((up_nc (by decide)).trans ((up_nc (by decide)).trans (hT j hj)))), up_at, fun j hj => absurd hj (Nat.not_lt_zero j), (up_nk (by decide)).trans ((up_nk (by decide)).trans ((up_nk (by decide)).trans up_at))⟩
  have hO0 : (up (up (up (up σ 70 8 (nI u)) 70 5 0) 70 6 0) 70 7 0) 70 6 = nI 0 := (up_nk (by decide)).trans up_at
  refine ct_of [.ref 70, .int (nI u), .null, .null, .null] pn_X8_text rfl (Nat.le_of_ble_eq_true rfl) ?_
  refine j_iload_n dX8_text_0 (q := 1) rfl rfl ?_
  refine j_iconst (v := 0) dX8_text_1 (q := 2) rfl (by decide) ?_
  refine j_iconst (v := 1) dX8_text_2 (q := 3) rfl (by decide) ?_
  refine j_callSi3E (M' := M_X8_in) lk_X8_59 ms_X8_in (by decide) (Nat.le_of_ble_eq_true rfl) dX8_text_3 (q := 6) rfl (ct_X8_in) ?_
  refine j_ifneB dX8_text_6 (t := 15) (by decide) (q := 9) rfl (fun c_6 => ?_) (fun c_6 => ?_)
  · skip
    refine j_aload_n dX8_text_15 (q := 16) rfl rfl ?_
    refine j_iload_n dX8_text_16 (q := 17) rfl rfl ?_
    refine j_putI fs_X8_73 rfl rfl fp_8_8 dX8_text_17 (q := 20) rfl ?_
    refine j_aload_n dX8_text_20 (q := 21) rfl rfl ?_
    refine j_iconst (v := 0) dX8_text_21 (q := 22) rfl (by decide) ?_
    refine j_putI fs_X8_69 rfl rfl fp_8_5 dX8_text_22 (q := 25) rfl ?_
    refine j_aload_n dX8_text_25 (q := 26) rfl rfl ?_
    refine j_iconst (v := 0) dX8_text_26 (q := 27) rfl (by decide) ?_
    refine j_putI fs_X8_103 rfl rfl fp_8_6 dX8_text_27 (q := 30) rfl ?_
    refine j_aload_n dX8_text_30 (q := 31) rfl rfl ?_
    refine j_iconst (v := 0) dX8_text_31 (q := 32) rfl (by decide) ?_
    refine j_putI fs_X8_76 rfl rfl fp_8_7 dX8_text_32 (q := 35) rfl ?_
    refine j_aload_n dX8_text_35 (q := 36) rfl rfl ?_
    refine j_callVi0 (M' := M_X8_whole) lk_X8_113 mv_X8_whole ob_70 (by decide) (Nat.le_of_ble_eq_true rfl) dX8_text_36 (q := 39) rfl (who_of hL hB hu (on_all hL hB hu 5) 0 rfl PT0 _ (Nat.zero_le _) (Nat.zero_le _) hR0 hO0) ?_
    intro x1 τ1 hz1
    obtain ⟨z1, hR1, -, hF1⟩ := hz1
    cases z1
    change RK B L u τ1 (QX B L u).2 at hR1
    have hf1 : ∀ x, x ≠ 70 → x ≠ 75 → τ1 x = σ x := fun x a b => (hF1.1 x a b).trans ((up_row a).trans ((up_row a).trans ((up_row a).trans (up_row a))))
    have hf2 : ∀ k, k ≠ 5 → k ≠ 6 → k ≠ 7 → k ≠ 8 → τ1 70 k = σ 70 k := fun k a b c d => (hF1.2 k a b c).trans ((up_nk c).trans ((up_nk b).trans ((up_nk a).trans (up_nk d))))
    refine j_ifeqB dX8_text_39 (t := 59) (by decide) (q := 42) rfl (fun c_39 => ?_) (fun c_39 => ?_)
    · skip
      refine j_aload_n dX8_text_42 (q := 43) rfl rfl ?_
      refine j_getIV fs_X8_69 rfl rfl hR1.1 dX8_text_43 (q := 46) rfl ?_
      refine j_aload_n dX8_text_46 (q := 47) rfl rfl ?_
      refine j_getR (r := 71) fs_X8_7 rfl rfl rfl dX8_text_47 (q := 50) rfl ?_
      refine j_iconst (v := 3) dX8_text_50 (q := 51) rfl (by decide) ?_
      refine j_ialdV (k := 3) rfl (by decide) hR1.2.1 dX8_text_51 (q := 52) rfl ?_
      refine j_icmp_neN (by omega) (by omega) dX8_text_52 (t := 59) (by decide) (q := 55) rfl (fun c_52 => ?_) (fun c_52 => ?_)
      · skip
        exact absurd hg.2 c_52
      · skip
        refine j_iconst (v := 1) dX8_text_55 (q := 56) rfl (by decide) ?_
        refine j_goto (q := 60) dX8_text_56 (by decide) ?_
        refine j_istore_n_5_2 dX8_text_60 (q := 61) rfl rfl rfl ?_
        refine j_aload_n dX8_text_61 (q := 62) rfl rfl ?_
        refine j_getR (r := 71) fs_X8_7 rfl rfl rfl dX8_text_62 (q := 65) rfl ?_
        refine j_iconst (v := 3) dX8_text_65 (q := 66) rfl (by decide) ?_
        refine j_iconst (v := 0) dX8_text_66 (q := 67) rfl (by decide) ?_
        refine j_iastN (k := 3) rfl (by decide) dX8_text_67 (q := 68) rfl ?_
        refine j_iload_n dX8_text_68 (q := 69) rfl rfl ?_
        refine j_if_ne dX8_text_69 (t := 80) (by decide) (q := 72) rfl (fun c_69 => ?_) (fun c_69 => ?_)
        · skip
          refine j_bipush (v := 60) dX8_text_80 (q := 82) rfl (by decide) ?_
          refine j_bipush (v := 125) dX8_text_82 (q := 84) rfl (by decide) ?_
          refine j_iload_n dX8_text_84 (q := 85) rfl rfl ?_
          refine j_imulN (a := 125) dX8_text_85 (q := 86) rfl ?_
          refine j_iaddN (a := 60) dX8_text_86 (q := 87) rfl ?_
          refine j_istore_n_5_3 dX8_text_87 (q := 88) rfl rfl rfl ?_
          refine j_aload_n dX8_text_88 (q := 89) rfl rfl ?_
          refine j_getR (r := 71) fs_X8_7 rfl rfl rfl dX8_text_89 (q := 92) rfl ?_
          refine j_iload_n dX8_text_92 (q := 93) rfl rfl ?_
          refine j_aload_n dX8_text_93 (q := 94) rfl rfl ?_
          refine j_getIV fs_X8_76 rfl rfl ((up_nc (by decide)).trans hR1.2.2.2.1) dX8_text_94 (q := 97) rfl ?_
          refine j_iastN rfl (by omega) dX8_text_97 (q := 98) rfl ?_
          refine j_iconst (v := 0) dX8_text_98 (q := 99) rfl (by decide) ?_
          refine j_istore_5_4 dX8_text_99 (q := 101) rfl rfl rfl ?_
          refine (tx_loop (τ1 := τ1) hu (by omega) hR1.2.2.2.1 (2 * (QX B L u).2.2.1) 0 _ (by omega) (fun x a => (up_row a).trans (up_row a)) (fun j hj => absurd hj (Nat.not_lt_zero j)) (fun k _ => by rw [up_own, up_own])).mono (fun r τ hz => ⟨τ1, hR1, hf1, hf2, hz⟩)
        · skip
          exact absurd c_69 (by decide)
    · skip
      exact absurd hg.1 c_39
  · skip
    exact absurd (inK (b := 1) (by omega) (by decide)) c_6
theorem ct_X8_text_bad {g : GT} {σ : S_} {B : Nat → Nat} {L u : Nat} (hL : L ≤ 60) (hB : ∀ j, j < L → B j < 256) (hu : u < 2) (e : σ 71 3 = nI L) (hT : ∀ j, j < L → σ 71 (310 + j) = nI (B j)) (hg : ¬ ((QX B L u).1 = true ∧ (QX B L u).2.1 = L)) : CT g 54 M_X8_text [.ref 70, .int (nI u)] σ (fun r τ => r = .int (-10 - nI (QX B L u).2.1) ∧ ∃ τ1, (∀ x, x ≠ 70 → x ≠ 75 → τ1 x = σ x) ∧ (∀ k, k ≠ 5 → k ≠ 6 → k ≠ 7 → k ≠ 8 → τ1 70 k = σ 70 k) ∧ τ = up τ1 71 3 0) := by
  have hq2 := (QX_q (B := B) (L := L) hu).1.2.1
  have hq4 := (QX_q (B := B) (L := L) hu).1.2.2.2.1
  replace hq4 : (QX B L u).2.2.1 + 0 ≤ (QX B L u).2.1 + 0 := hq4
  have hR0 : RK B L u (up (up (up (up σ 70 8 (nI u)) 70 5 0) 70 6 0) 70 7 0) PT0 := ⟨(up_nk (by decide)).trans ((up_nk (by decide)).trans up_at), (up_nc (by decide)).trans ((up_nc (by decide)).trans ((up_nc (by decide)).trans ((up_nc (by decide)).trans e))), fun j hj => (up_nc (by decide)).trans ((up_nc (by decide)).trans ((up_nc (by decide)).trans ((up_nc (by decide)).trans (hT j hj)))), up_at, fun j hj => absurd hj (Nat.not_lt_zero j), (up_nk (by decide)).trans ((up_nk (by decide)).trans ((up_nk (by decide)).trans up_at))⟩
  have hO0 : (up (up (up (up σ 70 8 (nI u)) 70 5 0) 70 6 0) 70 7 0) 70 6 = nI 0 := (up_nk (by decide)).trans up_at
  refine ct_of [.ref 70, .int (nI u), .null, .null, .null] pn_X8_text rfl (Nat.le_of_ble_eq_true rfl) ?_
  refine j_iload_n dX8_text_0 (q := 1) rfl rfl ?_
  refine j_iconst (v := 0) dX8_text_1 (q := 2) rfl (by decide) ?_
  refine j_iconst (v := 1) dX8_text_2 (q := 3) rfl (by decide) ?_
  refine j_callSi3E (M' := M_X8_in) lk_X8_59 ms_X8_in (by decide) (Nat.le_of_ble_eq_true rfl) dX8_text_3 (q := 6) rfl (ct_X8_in) ?_
  refine j_ifneB dX8_text_6 (t := 15) (by decide) (q := 9) rfl (fun c_6 => ?_) (fun c_6 => ?_)
  · skip
    refine j_aload_n dX8_text_15 (q := 16) rfl rfl ?_
    refine j_iload_n dX8_text_16 (q := 17) rfl rfl ?_
    refine j_putI fs_X8_73 rfl rfl fp_8_8 dX8_text_17 (q := 20) rfl ?_
    refine j_aload_n dX8_text_20 (q := 21) rfl rfl ?_
    refine j_iconst (v := 0) dX8_text_21 (q := 22) rfl (by decide) ?_
    refine j_putI fs_X8_69 rfl rfl fp_8_5 dX8_text_22 (q := 25) rfl ?_
    refine j_aload_n dX8_text_25 (q := 26) rfl rfl ?_
    refine j_iconst (v := 0) dX8_text_26 (q := 27) rfl (by decide) ?_
    refine j_putI fs_X8_103 rfl rfl fp_8_6 dX8_text_27 (q := 30) rfl ?_
    refine j_aload_n dX8_text_30 (q := 31) rfl rfl ?_
    refine j_iconst (v := 0) dX8_text_31 (q := 32) rfl (by decide) ?_
    refine j_putI fs_X8_76 rfl rfl fp_8_7 dX8_text_32 (q := 35) rfl ?_
    refine j_aload_n dX8_text_35 (q := 36) rfl rfl ?_
    refine j_callVi0 (M' := M_X8_whole) lk_X8_113 mv_X8_whole ob_70 (by decide) (Nat.le_of_ble_eq_true rfl) dX8_text_36 (q := 39) rfl (who_of hL hB hu (on_all hL hB hu 5) 0 rfl PT0 _ (Nat.zero_le _) (Nat.zero_le _) hR0 hO0) ?_
    intro x1 τ1 hz1
    obtain ⟨z1, hR1, -, hF1⟩ := hz1
    cases z1
    change RK B L u τ1 (QX B L u).2 at hR1
    have hf1 : ∀ x, x ≠ 70 → x ≠ 75 → τ1 x = σ x := fun x a b => (hF1.1 x a b).trans ((up_row a).trans ((up_row a).trans ((up_row a).trans (up_row a))))
    have hf2 : ∀ k, k ≠ 5 → k ≠ 6 → k ≠ 7 → k ≠ 8 → τ1 70 k = σ 70 k := fun k a b c d => (hF1.2 k a b c).trans ((up_nk c).trans ((up_nk b).trans ((up_nk a).trans (up_nk d))))
    refine j_ifeqB dX8_text_39 (t := 59) (by decide) (q := 42) rfl (fun c_39 => ?_) (fun c_39 => ?_)
    · skip
      refine j_aload_n dX8_text_42 (q := 43) rfl rfl ?_
      refine j_getIV fs_X8_69 rfl rfl hR1.1 dX8_text_43 (q := 46) rfl ?_
      refine j_aload_n dX8_text_46 (q := 47) rfl rfl ?_
      refine j_getR (r := 71) fs_X8_7 rfl rfl rfl dX8_text_47 (q := 50) rfl ?_
      refine j_iconst (v := 3) dX8_text_50 (q := 51) rfl (by decide) ?_
      refine j_ialdV (k := 3) rfl (by decide) hR1.2.1 dX8_text_51 (q := 52) rfl ?_
      refine j_icmp_neN (by omega) (by omega) dX8_text_52 (t := 59) (by decide) (q := 55) rfl (fun c_52 => ?_) (fun c_52 => ?_)
      · skip
        refine j_iconst (v := 0) dX8_text_59 (q := 60) rfl (by decide) ?_
        refine j_istore_n_5_2 dX8_text_60 (q := 61) rfl rfl rfl ?_
        refine j_aload_n dX8_text_61 (q := 62) rfl rfl ?_
        refine j_getR (r := 71) fs_X8_7 rfl rfl rfl dX8_text_62 (q := 65) rfl ?_
        refine j_iconst (v := 3) dX8_text_65 (q := 66) rfl (by decide) ?_
        refine j_iconst (v := 0) dX8_text_66 (q := 67) rfl (by decide) ?_
        refine j_iastN (k := 3) rfl (by decide) dX8_text_67 (q := 68) rfl ?_
        refine j_iload_n dX8_text_68 (q := 69) rfl rfl ?_
        refine j_if_ne dX8_text_69 (t := 80) (by decide) (q := 72) rfl (fun c_69 => ?_) (fun c_69 => ?_)
        · skip
          exact absurd c_69 (by decide)
        · skip
          refine j_bipush (v := (-10)) dX8_text_72 (q := 74) rfl (by decide) ?_
          refine j_aload_n dX8_text_74 (q := 75) rfl rfl ?_
          refine j_getIV fs_X8_69 rfl rfl ((up_nc (by decide)).trans hR1.1) dX8_text_75 (q := 78) rfl ?_
          refine j_isub dX8_text_78 (q := 79) rfl ?_
          refine j_ireti dX8_text_79 rfl ?_
          exact ⟨rfl, τ1, hf1, hf2, rfl⟩
      · skip
        exact absurd ⟨c_39, c_52⟩ hg
    · skip
      refine j_iconst (v := 0) dX8_text_59 (q := 60) rfl (by decide) ?_
      refine j_istore_n_5_2 dX8_text_60 (q := 61) rfl rfl rfl ?_
      refine j_aload_n dX8_text_61 (q := 62) rfl rfl ?_
      refine j_getR (r := 71) fs_X8_7 rfl rfl rfl dX8_text_62 (q := 65) rfl ?_
      refine j_iconst (v := 3) dX8_text_65 (q := 66) rfl (by decide) ?_
      refine j_iconst (v := 0) dX8_text_66 (q := 67) rfl (by decide) ?_
      refine j_iastN (k := 3) rfl (by decide) dX8_text_67 (q := 68) rfl ?_
      refine j_iload_n dX8_text_68 (q := 69) rfl rfl ?_
      refine j_if_ne dX8_text_69 (t := 80) (by decide) (q := 72) rfl (fun c_69 => ?_) (fun c_69 => ?_)
      · skip
        exact absurd c_69 (by decide)
      · skip
        refine j_bipush (v := (-10)) dX8_text_72 (q := 74) rfl (by decide) ?_
        refine j_aload_n dX8_text_74 (q := 75) rfl rfl ?_
        refine j_getIV fs_X8_69 rfl rfl ((up_nc (by decide)).trans hR1.1) dX8_text_75 (q := 78) rfl ?_
        refine j_isub dX8_text_78 (q := 79) rfl ?_
        refine j_ireti dX8_text_79 rfl ?_
        exact ⟨rfl, τ1, hf1, hf2, rfl⟩
  · skip
    exact absurd (inK (b := 1) (by omega) (by decide)) c_6
