theorem ct_X7_feed_no {g : GT} {σ : S_} {w : Int64} {n : Int32} (h : ¬ (1 ≤ n ∧ n ≤ 8)) : CT g 2 M_X7_feed [.ref 0, .long w, .int n] σ (EQ (.int (-1000000001)) (rfz σ 1)) := by
  refine ct_of [.ref 0, .long w, .null, .int n, .null] pn_X7_feed rfl (Nat.le_of_ble_eq_true rfl) ?_
  refine j_iload_n dX7_feed_0 (q := 1) rfl rfl ?_
  refine j_iconst (v := 1) dX7_feed_1 (q := 2) rfl (by decide) ?_
  refine j_bipush (v := 8) dX7_feed_2 (q := 4) rfl (by decide) ?_
  refine j_callSi3E (M' := M_X7_within) lk_X7_57 ms_X7_within (by decide) (Nat.le_of_ble_eq_true rfl) dX7_feed_4 (q := 7) rfl (ct_X7_within) ?_
  refine j_ifneB dX7_feed_7 (t := 16) (by decide) (q := 10) rfl (fun c_7 => ?_) (fun c_7 => ?_)
  · skip
    exact absurd c_7 h
  · skip
    refine j_aload_n dX7_feed_10 (q := 11) rfl rfl ?_
    refine j_iconst (v := 1) dX7_feed_11 (q := 12) rfl (by decide) ?_
    refine j_callVi1E (M' := M_X7_refuse) lk_X7_61 mv_X7_refuse ob_0 (by decide) (Nat.le_of_ble_eq_true rfl) dX7_feed_12 (q := 15) rfl (ct_ref1) ?_
    refine j_ireti dX7_feed_15 rfl ?_
    exact ⟨rfl, rfl⟩
theorem ct_X8_feed_no {g : GT} {σ : S_} {w : Int64} {n : Int32} (h : ¬ (1 ≤ n ∧ n ≤ 8)) : CT g 2 M_X8_feed [.ref 70, .long w, .int n] σ (EQ (.int (-1000000001)) (rfm σ 1)) := by
  refine ct_of [.ref 70, .long w, .null, .int n, .null] pn_X8_feed rfl (Nat.le_of_ble_eq_true rfl) ?_
  refine j_iload_n dX8_feed_0 (q := 1) rfl rfl ?_
  refine j_iconst (v := 1) dX8_feed_1 (q := 2) rfl (by decide) ?_
  refine j_bipush (v := 8) dX8_feed_2 (q := 4) rfl (by decide) ?_
  refine j_callSi3E (M' := M_X8_in) lk_X8_59 ms_X8_in (by decide) (Nat.le_of_ble_eq_true rfl) dX8_feed_4 (q := 7) rfl (ct_X8_in) ?_
  refine j_ifneB dX8_feed_7 (t := 16) (by decide) (q := 10) rfl (fun c_7 => ?_) (fun c_7 => ?_)
  · skip
    exact absurd c_7 h
  · skip
    refine j_aload_n dX8_feed_10 (q := 11) rfl rfl ?_
    refine j_iconst (v := 1) dX8_feed_11 (q := 12) rfl (by decide) ?_
    refine j_callVi1E (M' := M_X8_error) lk_X8_63 mv_X8_error ob_70 (by decide) (Nat.le_of_ble_eq_true rfl) dX8_feed_12 (q := 15) rfl (ct_err1) ?_
    refine j_ireti dX8_feed_15 rfl ?_
    exact ⟨rfl, rfl⟩
abbrev fdC (w : Int64) (i : Nat) : Int32 := (w.toUInt64 >>> ((nI (8 * i)).toInt64.toUInt64 &&& Int64.toUInt64 63)).toInt64.toInt32.toInt8.toInt32
abbrev fdM (w : Int64) (i : Nat) : Int32 := ((w >>> ((nI (8 * i)).toInt64 &&& 63)) &&& 255).toInt32
theorem in18 {n : Nat} (h1 : 1 ≤ n) (h8 : n ≤ 8) : (1 : Int32) ≤ nI n ∧ nI n ≤ 8 := ⟨(nI_le_iff (a := 1) (by decide) (by omega)).mpr h1, (nI_le_iff (b := 8) (by omega) (by decide)).mpr h8⟩
def feedT (t : Nat → Int32) (w : Int64) (nt : Nat) : Nat → Nat → Int32
  | 0 => t
  | i + 1 => upd (upd (feedT t w nt i) (310 + (nt + i)) (fdM w i)) 3 (nI (nt + i + 1))
theorem feedT_3 {t : Nat → Int32} {w : Int64} {nt : Nat} (h : t 3 = nI nt) : ∀ i, feedT t w nt i 3 = nI (nt + i) := by
  intro i
  cases i with
  | zero => exact h
  | succ i => exact upd_at
theorem ct_X7_feed_full {g : GT} {σ : S_} {w : Int64} {n nt : Nat} (h1 : 1 ≤ n) (h8 : n ≤ 8) (e : σ 8 10 = nI nt) (h6 : nt ≤ 60) (hf : 60 < nt + n) : CT g 2 M_X7_feed [.ref 0, .long w, .int (nI n)] σ (EQ (.int (-1000000004)) (rfz σ 4)) := by
  refine ct_of [.ref 0, .long w, .null, .int (nI n), .null] pn_X7_feed rfl (Nat.le_of_ble_eq_true rfl) ?_
  refine j_iload_n dX7_feed_0 (q := 1) rfl rfl ?_
  refine j_iconst (v := 1) dX7_feed_1 (q := 2) rfl (by decide) ?_
  refine j_bipush (v := 8) dX7_feed_2 (q := 4) rfl (by decide) ?_
  refine j_callSi3E (M' := M_X7_within) lk_X7_57 ms_X7_within (by decide) (Nat.le_of_ble_eq_true rfl) dX7_feed_4 (q := 7) rfl (ct_X7_within) ?_
  refine j_ifneB dX7_feed_7 (t := 16) (by decide) (q := 10) rfl (fun c_7 => ?_) (fun c_7 => ?_)
  · skip
    refine j_aload_n dX7_feed_16 (q := 17) rfl rfl ?_
    refine j_getR (r := 8) fs_X7_10 rfl rfl rfl dX7_feed_17 (q := 20) rfl ?_
    refine j_getIV fs_X7_148 rfl rfl e dX7_feed_20 (q := 23) rfl ?_
    refine j_iload_n dX7_feed_23 (q := 24) rfl rfl ?_
    refine j_iaddN dX7_feed_24 (q := 25) rfl ?_
    refine j_bipush (v := 60) dX7_feed_25 (q := 27) rfl (by decide) ?_
    refine j_icmp_leN (b := 60) (by omega) (by omega) dX7_feed_27 (t := 36) (by decide) (q := 30) rfl (fun c_27 => ?_) (fun c_27 => ?_)
    · skip
      omega
    · skip
      refine j_aload_n dX7_feed_30 (q := 31) rfl rfl ?_
      refine j_iconst (v := 4) dX7_feed_31 (q := 32) rfl (by decide) ?_
      refine j_callVi1E (M' := M_X7_refuse) lk_X7_61 mv_X7_refuse ob_0 (by decide) (Nat.le_of_ble_eq_true rfl) dX7_feed_32 (q := 35) rfl (ct_ref4) ?_
      refine j_ireti dX7_feed_35 rfl ?_
      exact ⟨rfl, rfl⟩
  · skip
    exact absurd (in18 h1 h8) c_7
theorem ct_X8_feed_full {g : GT} {σ : S_} {w : Int64} {n nt : Nat} (h1 : 1 ≤ n) (h8 : n ≤ 8) (e : σ 71 3 = nI nt) (h6 : nt ≤ 60) (hf : 60 < nt + n) : CT g 2 M_X8_feed [.ref 70, .long w, .int (nI n)] σ (EQ (.int (-1000000004)) (rfm σ 4)) := by
  refine ct_of [.ref 70, .long w, .null, .int (nI n), .null] pn_X8_feed rfl (Nat.le_of_ble_eq_true rfl) ?_
  refine j_iload_n dX8_feed_0 (q := 1) rfl rfl ?_
  refine j_iconst (v := 1) dX8_feed_1 (q := 2) rfl (by decide) ?_
  refine j_bipush (v := 8) dX8_feed_2 (q := 4) rfl (by decide) ?_
  refine j_callSi3E (M' := M_X8_in) lk_X8_59 ms_X8_in (by decide) (Nat.le_of_ble_eq_true rfl) dX8_feed_4 (q := 7) rfl (ct_X8_in) ?_
  refine j_ifneB dX8_feed_7 (t := 16) (by decide) (q := 10) rfl (fun c_7 => ?_) (fun c_7 => ?_)
  · skip
    refine j_aload_n dX8_feed_16 (q := 17) rfl rfl ?_
    refine j_getR (r := 71) fs_X8_7 rfl rfl rfl dX8_feed_17 (q := 20) rfl ?_
    refine j_iconst (v := 3) dX8_feed_20 (q := 21) rfl (by decide) ?_
    refine j_ialdV (k := 3) rfl (by decide) e dX8_feed_21 (q := 22) rfl ?_
    refine j_iload_n dX8_feed_22 (q := 23) rfl rfl ?_
    refine j_iaddN dX8_feed_23 (q := 24) rfl ?_
    refine j_bipush (v := 60) dX8_feed_24 (q := 26) rfl (by decide) ?_
    refine j_icmp_leN (b := 60) (by omega) (by omega) dX8_feed_26 (t := 35) (by decide) (q := 29) rfl (fun c_26 => ?_) (fun c_26 => ?_)
    · skip
      omega
    · skip
      refine j_aload_n dX8_feed_29 (q := 30) rfl rfl ?_
      refine j_iconst (v := 4) dX8_feed_30 (q := 31) rfl (by decide) ?_
      refine j_callVi1E (M' := M_X8_error) lk_X8_63 mv_X8_error ob_70 (by decide) (Nat.le_of_ble_eq_true rfl) dX8_feed_31 (q := 34) rfl (ct_err4) ?_
      refine j_ireti dX8_feed_34 rfl ?_
      exact ⟨rfl, rfl⟩
  · skip
    exact absurd (in18 h1 h8) c_7
theorem fl_loop {g : GT} {w : Int64} {n nt : Nat} {σ0 : S_} (h8 : n ≤ 8) (e : σ0 8 10 = nI nt) (h6 : nt + n ≤ 60) : ∀ (k i : Nat) (σ : S_), i + k = n → (∀ j, j < i → σ 13 (nt + j) = fdC w j) → (∀ j, j < nt ∨ nt + i ≤ j → σ 13 j = σ0 13 j) → (∀ x, x ≠ 13 → σ x = σ0 x) → J g 2 M_X7_feed (fun r τ => r = .int (nI (nt + n)) ∧ (∀ j, j < n → τ 13 (nt + j) = fdC w j) ∧ (∀ j, j < nt ∨ nt + n ≤ j → τ 13 j = σ0 13 j) ∧ τ 8 = upd (σ0 8) 10 (nI (nt + n)) ∧ ∀ x, x ≠ 13 → x ≠ 8 → τ x = σ0 x) 39 [.ref 0, .long w, .null, .int (nI n), .int (nI i)] [] σ := by
  intro k
  induction k with
  | zero =>
    intro i σ hik hw hk hO
    refine j_iload dX7_feed_39 (q := 41) rfl rfl ?_
    refine j_iload_n dX7_feed_41 (q := 42) rfl rfl ?_
    refine j_icmp_geN (by omega) (by omega) dX7_feed_42 (t := 78) (by decide) (q := 45) rfl (fun c_42 => ?_) (fun c_42 => ?_)
    · skip
      refine j_aload_n dX7_feed_78 (q := 79) rfl rfl ?_
      refine j_getR (r := 8) fs_X7_10 rfl rfl rfl dX7_feed_79 (q := 82) rfl ?_
      refine j_dup dX7_feed_82 (q := 83) rfl rfl ?_
      refine j_getIV fs_X7_148 rfl rfl ((congrFun (hO 8 (by decide)) 10).trans e) dX7_feed_83 (q := 86) rfl ?_
      refine j_iload_n dX7_feed_86 (q := 87) rfl rfl ?_
      refine j_iaddN dX7_feed_87 (q := 88) rfl ?_
      refine j_putI fs_X7_148 rfl rfl fp_6_10 dX7_feed_88 (q := 91) rfl ?_
      refine j_aload_n dX7_feed_91 (q := 92) rfl rfl ?_
      refine j_getR (r := 8) fs_X7_10 rfl rfl rfl dX7_feed_92 (q := 95) rfl ?_
      refine j_getIV fs_X7_148 rfl rfl up_at dX7_feed_95 (q := 98) rfl ?_
      refine j_ireti dX7_feed_98 rfl ?_
      obtain rfl : i = n := by omega
      refine ⟨rfl, fun j hj => (up_nc (by decide)).trans (hw j hj), fun j hj => (up_nc (by decide)).trans (hk j hj), ?_, fun x a b => (up_row b).trans (hO x a)⟩
      rw [up_own, hO 8 (by decide)]
    · skip
      omega
  | succ k ih =>
    intro i σ hik hw hk hO
    refine j_iload dX7_feed_39 (q := 41) rfl rfl ?_
    refine j_iload_n dX7_feed_41 (q := 42) rfl rfl ?_
    refine j_icmp_geN (by omega) (by omega) dX7_feed_42 (t := 78) (by decide) (q := 45) rfl (fun c_42 => ?_) (fun c_42 => ?_)
    · skip
      omega
    · skip
      refine j_aload_n dX7_feed_45 (q := 46) rfl rfl ?_
      refine j_getR (r := 8) fs_X7_10 rfl rfl rfl dX7_feed_46 (q := 49) rfl ?_
      refine j_getR (r := 13) fs_X7_151 rfl rfl rfl dX7_feed_49 (q := 52) rfl ?_
      refine j_aload_n dX7_feed_52 (q := 53) rfl rfl ?_
      refine j_getR (r := 8) fs_X7_10 rfl rfl rfl dX7_feed_53 (q := 56) rfl ?_
      refine j_getIV fs_X7_148 rfl rfl ((congrFun (hO 8 (by decide)) 10).trans e) dX7_feed_56 (q := 59) rfl ?_
      refine j_iload dX7_feed_59 (q := 61) rfl rfl ?_
      refine j_iaddN dX7_feed_61 (q := 62) rfl ?_
      refine j_lload_n dX7_feed_62 (q := 63) rfl rfl ?_
      refine j_bipush (v := 8) dX7_feed_63 (q := 65) rfl (by decide) ?_
      refine j_iload dX7_feed_65 (q := 67) rfl rfl ?_
      refine j_imulN (a := 8) dX7_feed_67 (q := 68) rfl ?_
      refine j_lushr dX7_feed_68 (q := 69) rfl ?_
      refine j_l2i dX7_feed_69 (q := 70) rfl ?_
      refine j_i2b dX7_feed_70 (q := 71) rfl ?_
      refine j_bastN rfl (by omega) dX7_feed_71 (q := 72) rfl ?_
      refine j_iincN_5_4 dX7_feed_72 (q := 75) rfl rfl rfl ?_
      refine j_goto (q := 39) dX7_feed_75 (by decide) ?_
      refine ih (i + 1) _ (by omega) (fun j hj => ?_) (fun j hj => (up_nk (by omega)).trans (hk j (by omega))) (fun x hx => (up_row hx).trans (hO x hx))
      by_cases q : j = i
      · subst q; exact up_at
      · exact (up_nk (by omega)).trans (hw j (by omega))
theorem ct_X7_feed_ok {g : GT} {σ : S_} {w : Int64} {n nt : Nat} (h1 : 1 ≤ n) (h8 : n ≤ 8) (e : σ 8 10 = nI nt) (h6 : nt + n ≤ 60) : CT g 2 M_X7_feed [.ref 0, .long w, .int (nI n)] σ (fun r τ => r = .int (nI (nt + n)) ∧ (∀ j, j < n → τ 13 (nt + j) = fdC w j) ∧ (∀ j, j < nt ∨ nt + n ≤ j → τ 13 j = σ 13 j) ∧ τ 8 = upd (σ 8) 10 (nI (nt + n)) ∧ ∀ x, x ≠ 13 → x ≠ 8 → τ x = σ x) := by
  refine ct_of [.ref 0, .long w, .null, .int (nI n), .null] pn_X7_feed rfl (Nat.le_of_ble_eq_true rfl) ?_
  refine j_iload_n dX7_feed_0 (q := 1) rfl rfl ?_
  refine j_iconst (v := 1) dX7_feed_1 (q := 2) rfl (by decide) ?_
  refine j_bipush (v := 8) dX7_feed_2 (q := 4) rfl (by decide) ?_
  refine j_callSi3E (M' := M_X7_within) lk_X7_57 ms_X7_within (by decide) (Nat.le_of_ble_eq_true rfl) dX7_feed_4 (q := 7) rfl (ct_X7_within) ?_
  refine j_ifneB dX7_feed_7 (t := 16) (by decide) (q := 10) rfl (fun c_7 => ?_) (fun c_7 => ?_)
  · skip
    refine j_aload_n dX7_feed_16 (q := 17) rfl rfl ?_
    refine j_getR (r := 8) fs_X7_10 rfl rfl rfl dX7_feed_17 (q := 20) rfl ?_
    refine j_getIV fs_X7_148 rfl rfl e dX7_feed_20 (q := 23) rfl ?_
    refine j_iload_n dX7_feed_23 (q := 24) rfl rfl ?_
    refine j_iaddN dX7_feed_24 (q := 25) rfl ?_
    refine j_bipush (v := 60) dX7_feed_25 (q := 27) rfl (by decide) ?_
    refine j_icmp_leN (b := 60) (by omega) (by omega) dX7_feed_27 (t := 36) (by decide) (q := 30) rfl (fun c_27 => ?_) (fun c_27 => ?_)
    · skip
      refine j_iconst (v := 0) dX7_feed_36 (q := 37) rfl (by decide) ?_
      refine j_istore_5_4 dX7_feed_37 (q := 39) rfl rfl rfl ?_
      exact fl_loop (σ0 := σ) h8 e h6 n 0 σ (by omega) (fun j hj => absurd hj (by omega)) (fun _ _ => rfl) (fun _ _ => rfl)
    · skip
      omega
  · skip
    exact absurd (in18 h1 h8) c_7
theorem fy_loop {g : GT} {w : Int64} {n nt : Nat} {σ0 : S_} (h8 : n ≤ 8) (e : σ0 71 3 = nI nt) (h6 : nt + n ≤ 60) : ∀ (k i : Nat) (σ : S_), i + k = n → σ 71 = feedT (σ0 71) w nt i → (∀ x, x ≠ 71 → σ x = σ0 x) → J g 2 M_X8_feed (fun r τ => r = .int (nI (nt + n)) ∧ τ 71 = feedT (σ0 71) w nt n ∧ ∀ x, x ≠ 71 → τ x = σ0 x) 38 [.ref 70, .long w, .null, .int (nI n), .int (nI i)] [] σ := by
  intro k
  induction k with
  | zero =>
    intro i σ hik hs hO
    refine j_iload dX8_feed_38 (q := 40) rfl rfl ?_
    refine j_iload_n dX8_feed_40 (q := 41) rfl rfl ?_
    refine j_icmp_geN (by omega) (by omega) dX8_feed_41 (t := 87) (by decide) (q := 44) rfl (fun c_41 => ?_) (fun c_41 => ?_)
    · skip
      refine j_aload_n dX8_feed_87 (q := 88) rfl rfl ?_
      refine j_getR (r := 71) fs_X8_7 rfl rfl rfl dX8_feed_88 (q := 91) rfl ?_
      refine j_iconst (v := 3) dX8_feed_91 (q := 92) rfl (by decide) ?_
      refine j_ialdV (k := 3) rfl (by decide) ((congrFun hs 3).trans (feedT_3 e i)) dX8_feed_92 (q := 93) rfl ?_
      refine j_ireti dX8_feed_93 rfl ?_
      obtain rfl : i = n := by omega
      exact ⟨rfl, hs, hO⟩
    · skip
      omega
  | succ k ih =>
    intro i σ hik hs hO
    refine j_iload dX8_feed_38 (q := 40) rfl rfl ?_
    refine j_iload_n dX8_feed_40 (q := 41) rfl rfl ?_
    refine j_icmp_geN (by omega) (by omega) dX8_feed_41 (t := 87) (by decide) (q := 44) rfl (fun c_41 => ?_) (fun c_41 => ?_)
    · skip
      omega
    · skip
      refine j_aload_n dX8_feed_44 (q := 45) rfl rfl ?_
      refine j_getR (r := 71) fs_X8_7 rfl rfl rfl dX8_feed_45 (q := 48) rfl ?_
      refine j_sipush (v := 310) dX8_feed_48 (q := 51) rfl (by decide) ?_
      refine j_aload_n dX8_feed_51 (q := 52) rfl rfl ?_
      refine j_getR (r := 71) fs_X8_7 rfl rfl rfl dX8_feed_52 (q := 55) rfl ?_
      refine j_iconst (v := 3) dX8_feed_55 (q := 56) rfl (by decide) ?_
      refine j_ialdV (k := 3) rfl (by decide) ((congrFun hs 3).trans (feedT_3 e i)) dX8_feed_56 (q := 57) rfl ?_
      refine j_iaddN (a := 310) dX8_feed_57 (q := 58) rfl ?_
      refine j_lload_n dX8_feed_58 (q := 59) rfl rfl ?_
      refine j_bipush (v := 8) dX8_feed_59 (q := 61) rfl (by decide) ?_
      refine j_iload dX8_feed_61 (q := 63) rfl rfl ?_
      refine j_imulN (a := 8) dX8_feed_63 (q := 64) rfl ?_
      refine j_lshr dX8_feed_64 (q := 65) rfl ?_
      refine j_ldc2 cn_X8_67 dX8_feed_65 (q := 68) rfl ?_
      refine j_land dX8_feed_68 (q := 69) rfl ?_
      refine j_l2i dX8_feed_69 (q := 70) rfl ?_
      refine j_iastN rfl (by omega) dX8_feed_70 (q := 71) rfl ?_
      refine j_aload_n dX8_feed_71 (q := 72) rfl rfl ?_
      refine j_getR (r := 71) fs_X8_7 rfl rfl rfl dX8_feed_72 (q := 75) rfl ?_
      refine j_iconst (v := 3) dX8_feed_75 (q := 76) rfl (by decide) ?_
      refine j_dup2 dX8_feed_76 (q := 77) rfl rfl rfl ?_
      refine j_ialdV (k := 3) rfl (by decide) ((up_nk (by omega)).trans ((congrFun hs 3).trans (feedT_3 e i))) dX8_feed_77 (q := 78) rfl ?_
      refine j_iconst (v := 1) dX8_feed_78 (q := 79) rfl (by decide) ?_
      refine j_iaddN (b := 1) dX8_feed_79 (q := 80) rfl ?_
      refine j_iastN (k := 3) rfl (by decide) dX8_feed_80 (q := 81) rfl ?_
      refine j_iincN_5_4 dX8_feed_81 (q := 84) rfl rfl rfl ?_
      refine j_goto (q := 38) dX8_feed_84 (by decide) ?_
      refine ih (i + 1) _ (by omega) ?_ (fun x hx => (up_row hx).trans ((up_row hx).trans (hO x hx)))
      rw [up_own, up_own, hs]
      rfl
theorem ct_X8_feed_ok {g : GT} {σ : S_} {w : Int64} {n nt : Nat} (h1 : 1 ≤ n) (h8 : n ≤ 8) (e : σ 71 3 = nI nt) (h6 : nt + n ≤ 60) : CT g 2 M_X8_feed [.ref 70, .long w, .int (nI n)] σ (fun r τ => r = .int (nI (nt + n)) ∧ τ 71 = feedT (σ 71) w nt n ∧ ∀ x, x ≠ 71 → τ x = σ x) := by
  refine ct_of [.ref 70, .long w, .null, .int (nI n), .null] pn_X8_feed rfl (Nat.le_of_ble_eq_true rfl) ?_
  refine j_iload_n dX8_feed_0 (q := 1) rfl rfl ?_
  refine j_iconst (v := 1) dX8_feed_1 (q := 2) rfl (by decide) ?_
  refine j_bipush (v := 8) dX8_feed_2 (q := 4) rfl (by decide) ?_
  refine j_callSi3E (M' := M_X8_in) lk_X8_59 ms_X8_in (by decide) (Nat.le_of_ble_eq_true rfl) dX8_feed_4 (q := 7) rfl (ct_X8_in) ?_
  refine j_ifneB dX8_feed_7 (t := 16) (by decide) (q := 10) rfl (fun c_7 => ?_) (fun c_7 => ?_)
  · skip
    refine j_aload_n dX8_feed_16 (q := 17) rfl rfl ?_
    refine j_getR (r := 71) fs_X8_7 rfl rfl rfl dX8_feed_17 (q := 20) rfl ?_
    refine j_iconst (v := 3) dX8_feed_20 (q := 21) rfl (by decide) ?_
    refine j_ialdV (k := 3) rfl (by decide) e dX8_feed_21 (q := 22) rfl ?_
    refine j_iload_n dX8_feed_22 (q := 23) rfl rfl ?_
    refine j_iaddN dX8_feed_23 (q := 24) rfl ?_
    refine j_bipush (v := 60) dX8_feed_24 (q := 26) rfl (by decide) ?_
    refine j_icmp_leN (b := 60) (by omega) (by omega) dX8_feed_26 (t := 35) (by decide) (q := 29) rfl (fun c_26 => ?_) (fun c_26 => ?_)
    · skip
      refine j_iconst (v := 0) dX8_feed_35 (q := 36) rfl (by decide) ?_
      refine j_istore_5_4 dX8_feed_36 (q := 38) rfl rfl rfl ?_
      exact fy_loop (σ0 := σ) h8 e h6 n 0 σ (by omega) rfl (fun _ _ => rfl)
    · skip
      omega
  · skip
    exact absurd (in18 h1 h8) c_7
