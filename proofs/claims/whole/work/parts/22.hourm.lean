def outM (τ σ : S_) : Prop := ∀ x, x ≠ 71 → x ≠ 76 → x ≠ 77 → τ x = σ x
def ZM (σ : S_) (t : Nat → Int32) : Value → S_ → Prop := fun r τ => r = .null ∧ τ 71 = t ∧ outM τ σ
theorem gm2 {g : GT} {a : Nat → Int32} {σ0 : S_} : ∀ (k p : Nat) (v2 : Value) (σ : S_), p + k = 3 → σ 71 = wat a p → outM σ σ0 → J g 4 M_X8_anHour (ZM σ0 (upd (wat a 3) 0 (wat a 3 0 + 1))) 69 [.ref 70, .int (nI p), v2] [] σ := by
  intro k
  induction k with
  | zero =>
    intro p v2 σ hp hs hO
    refine j_iload_n dX8_anHour_69 (q := 70) rfl rfl ?_
    refine j_iconst (v := 3) dX8_anHour_70 (q := 71) rfl (by decide) ?_
    refine j_icmp_geN (b := 3) (by omega) (by omega) dX8_anHour_71 (t := 109) (by decide) (q := 74) rfl (fun c_71 => ?_) (fun c_71 => ?_)
    · skip
      rw [show p = 3 by omega] at hs
      refine j_aload_n dX8_anHour_109 (q := 110) rfl rfl ?_
      refine j_getR (r := 71) fs_X8_7 rfl rfl rfl dX8_anHour_110 (q := 113) rfl ?_
      refine j_iconst (v := 0) dX8_anHour_113 (q := 114) rfl (by decide) ?_
      refine j_dup2 dX8_anHour_114 (q := 115) rfl rfl rfl ?_
      refine j_ialdN (k := 0) rfl (by decide) dX8_anHour_115 (q := 116) rfl ?_
      refine j_iconst (v := 1) dX8_anHour_116 (q := 117) rfl (by decide) ?_
      refine j_iadd dX8_anHour_117 (q := 118) rfl ?_
      refine j_iastN (k := 0) rfl (by decide) dX8_anHour_118 (q := 119) rfl ?_
      refine j_vret dX8_anHour_119 rfl ?_
      exact ⟨rfl, by rw [up_own, hs], fun x h1 h2 h3 => (up_row h1).trans (hO x h1 h2 h3)⟩
    · skip
      omega
  | succ k ih =>
    intro p v2 σ hp hs hO
    refine j_iload_n dX8_anHour_69 (q := 70) rfl rfl ?_
    refine j_iconst (v := 3) dX8_anHour_70 (q := 71) rfl (by decide) ?_
    refine j_icmp_geN (b := 3) (by omega) (by omega) dX8_anHour_71 (t := 109) (by decide) (q := 74) rfl (fun c_71 => ?_) (fun c_71 => ?_)
    · skip
      omega
    · skip
      refine j_aload_n dX8_anHour_74 (q := 75) rfl rfl ?_
      refine j_getR (r := 71) fs_X8_7 rfl rfl rfl dX8_anHour_75 (q := 78) rfl ?_
      refine j_bipush (v := 7) dX8_anHour_78 (q := 80) rfl (by decide) ?_
      refine j_iload_n dX8_anHour_80 (q := 81) rfl rfl ?_
      refine j_iaddN (a := 7) dX8_anHour_81 (q := 82) rfl ?_
      refine j_aload_n dX8_anHour_82 (q := 83) rfl rfl ?_
      refine j_getR (r := 71) fs_X8_7 rfl rfl rfl dX8_anHour_83 (q := 86) rfl ?_
      refine j_bipush (v := 7) dX8_anHour_86 (q := 88) rfl (by decide) ?_
      refine j_iload_n dX8_anHour_88 (q := 89) rfl rfl ?_
      refine j_iaddN (a := 7) dX8_anHour_89 (q := 90) rfl ?_
      refine j_ialdN rfl (by omega) dX8_anHour_90 (q := 91) rfl ?_
      refine j_iload_n dX8_anHour_91 (q := 92) rfl rfl ?_
      refine j_iadd dX8_anHour_92 (q := 93) rfl ?_
      refine j_iconst (v := 1) dX8_anHour_93 (q := 94) rfl (by decide) ?_
      refine j_iadd dX8_anHour_94 (q := 95) rfl ?_
      refine j_iconst (v := 0) dX8_anHour_95 (q := 96) rfl (by decide) ?_
      refine j_sipush (v := 999) dX8_anHour_96 (q := 99) rfl (by decide) ?_
      refine j_callSi3E (M' := M_X8_held) lk_X8_130 ms_X8_held (by decide) (Nat.le_of_ble_eq_true rfl) dX8_anHour_99 (q := 102) rfl (ct_X8_held) ?_
      refine j_iastN rfl (by omega) dX8_anHour_102 (q := 103) rfl ?_
      refine j_iincN_3_1 dX8_anHour_103 (q := 106) rfl rfl rfl ?_
      refine j_goto (q := 69) dX8_anHour_106 (by decide) ?_
      exact ih (p + 1) _ _ (by omega) (by rw [up_own, hs]; rfl) (fun x h1 h2 h3 => (up_row h1).trans (hO x h1 h2 h3))
theorem gm1 {g : GT} {t : Nat → Int32} {nf : Nat} {σ0 : S_} (hB : BD t) (hn : t 5 = nI nf) (h7 : nf ≤ 7) : ∀ (k i : Nat) (v2 : Value) (σ : S_), i + k = nf → σ 71 = hfarms t i → outM σ σ0 → J g 4 M_X8_anHour (ZM σ0 (hourN t nf)) 2 [.ref 70, .int (nI i), v2] [] σ := by
  intro k
  induction k with
  | zero =>
    intro i v2 σ hik hs hO
    refine j_iload_n dX8_anHour_2 (q := 3) rfl rfl ?_
    refine j_aload_n dX8_anHour_3 (q := 4) rfl rfl ?_
    refine j_getR (r := 71) fs_X8_7 rfl rfl rfl dX8_anHour_4 (q := 7) rfl ?_
    refine j_iconst (v := 5) dX8_anHour_7 (q := 8) rfl (by decide) ?_
    refine j_ialdV (k := 5) rfl (by decide) ((congrFun hs 5).trans ((hfarms_keep (by decide) i (by omega) (by omega)).trans hn)) dX8_anHour_8 (q := 9) rfl ?_
    refine j_icmp_geN (by omega) (by omega) dX8_anHour_9 (t := 67) (by decide) (q := 12) rfl (fun c_9 => ?_) (fun c_9 => ?_)
    · skip
      refine j_iconst (v := 0) dX8_anHour_67 (q := 68) rfl (by decide) ?_
      refine j_istore_n_3_1 dX8_anHour_68 (q := 69) rfl rfl rfl ?_
      rw [show i = nf by omega] at hs
      exact gm2 3 0 _ σ rfl hs hO
    · skip
      omega
  | succ k ih =>
    intro i v2 σ hik hs hO
    refine j_iload_n dX8_anHour_2 (q := 3) rfl rfl ?_
    refine j_aload_n dX8_anHour_3 (q := 4) rfl rfl ?_
    refine j_getR (r := 71) fs_X8_7 rfl rfl rfl dX8_anHour_4 (q := 7) rfl ?_
    refine j_iconst (v := 5) dX8_anHour_7 (q := 8) rfl (by decide) ?_
    refine j_ialdV (k := 5) rfl (by decide) ((congrFun hs 5).trans ((hfarms_keep (by decide) i (by omega) (by omega)).trans hn)) dX8_anHour_8 (q := 9) rfl ?_
    refine j_icmp_geN (by omega) (by omega) dX8_anHour_9 (t := 67) (by decide) (q := 12) rfl (fun c_9 => ?_) (fun c_9 => ?_)
    · skip
      omega
    · skip
      refine j_aload_n dX8_anHour_12 (q := 13) rfl rfl ?_
      refine j_iload_n dX8_anHour_13 (q := 14) rfl rfl ?_
      refine j_iconst (v := 4) dX8_anHour_14 (q := 15) rfl (by decide) ?_
      refine j_callVi2E (M' := M_X8_its) lk_X8_123 mv_X8_its ob_70 (by decide) (Nat.le_of_ble_eq_true rfl) dX8_anHour_15 (q := 18) rfl (ct_X8_its (k := 4) (by omega) (by decide)) ?_
      refine j_aload_n dX8_anHour_18 (q := 19) rfl rfl ?_
      refine j_iload_n dX8_anHour_19 (q := 20) rfl rfl ?_
      refine j_callVi1 (M' := M_X8_growthOf) lk_X8_145 mv_X8_growthOf ob_70 (by decide) (Nat.le_of_ble_eq_true rfl) dX8_anHour_20 (q := 23) rfl (ct_X8_growthOf (by omega) (by rw [hs]; exact (BD_hfarms hB i (by omega)).t0)) ?_
      intro x1 τ1 hz
      obtain ⟨h1, hτ1⟩ := hz
      cases h1
      have hs1 : τ1 71 = hfarms t i := (hτ1 71 (by decide) (by decide)).trans hs
      have hO1 : outM τ1 σ0 := fun x h1 h2 h3 => (hτ1 x h2 h3).trans (hO x h1 h2 h3)
      rw [hs]
      refine j_iadd dX8_anHour_23 (q := 24) rfl ?_
      refine j_istore_n_3_2 dX8_anHour_24 (q := 25) rfl rfl rfl ?_
      refine j_iload_n dX8_anHour_25 (q := 26) rfl rfl ?_
      refine j_bipush (v := 99) dX8_anHour_26 (q := 28) rfl (by decide) ?_
      refine j_icmp_le dX8_anHour_28 (t := 54) (by decide) (q := 31) rfl (fun c_28 => ?_) (fun c_28 => ?_)
      · skip
        refine j_aload_n dX8_anHour_54 (q := 55) rfl rfl ?_
        refine j_iload_n dX8_anHour_55 (q := 56) rfl rfl ?_
        refine j_iconst (v := 4) dX8_anHour_56 (q := 57) rfl (by decide) ?_
        refine j_iload_n dX8_anHour_57 (q := 58) rfl rfl ?_
        refine j_callVv3E (M' := M_X8_lays1) lk_X8_149 mv_X8_lays1 ob_70 (by decide) (Nat.le_of_ble_eq_true rfl) dX8_anHour_58 (q := 61) rfl (ct_X8_lays1 (k := 4) (by omega) (by decide)) ?_
        refine j_iincN_3_1 dX8_anHour_61 (q := 64) rfl rfl rfl ?_
        refine j_goto (q := 2) dX8_anHour_64 (by decide) ?_
        refine ih (i + 1) _ _ (by omega) ?_ (fun x h1 h2 h3 => (up_row h1).trans (hO1 x h1 h2 h3))
        rw [up_own, hs1]
        exact (if_pos c_28).symm
      · skip
        refine j_bipush (v := 99) dX8_anHour_31 (q := 33) rfl (by decide) ?_
        refine j_istore_n_3_2 dX8_anHour_33 (q := 34) rfl rfl rfl ?_
        refine j_aload_n dX8_anHour_34 (q := 35) rfl rfl ?_
        refine j_getR (r := 71) fs_X8_7 rfl rfl rfl dX8_anHour_35 (q := 38) rfl ?_
        refine j_iconst (v := 1) dX8_anHour_38 (q := 39) rfl (by decide) ?_
        refine j_aload_n dX8_anHour_39 (q := 40) rfl rfl ?_
        refine j_getR (r := 71) fs_X8_7 rfl rfl rfl dX8_anHour_40 (q := 43) rfl ?_
        refine j_iconst (v := 1) dX8_anHour_43 (q := 44) rfl (by decide) ?_
        refine j_ialdN (k := 1) rfl (by decide) dX8_anHour_44 (q := 45) rfl ?_
        refine j_iconst (v := 1) dX8_anHour_45 (q := 46) rfl (by decide) ?_
        refine j_iadd dX8_anHour_46 (q := 47) rfl ?_
        refine j_iconst (v := 0) dX8_anHour_47 (q := 48) rfl (by decide) ?_
        refine j_ldc cn_X8_148 dX8_anHour_48 (q := 50) rfl ?_
        refine j_callSi3E (M' := M_X8_held) lk_X8_130 ms_X8_held (by decide) (Nat.le_of_ble_eq_true rfl) dX8_anHour_50 (q := 53) rfl (ct_X8_held) ?_
        refine j_iastN (k := 1) rfl (by decide) dX8_anHour_53 (q := 54) rfl ?_
        refine j_aload_n dX8_anHour_54 (q := 55) rfl rfl ?_
        refine j_iload_n dX8_anHour_55 (q := 56) rfl rfl ?_
        refine j_iconst (v := 4) dX8_anHour_56 (q := 57) rfl (by decide) ?_
        refine j_iload_n dX8_anHour_57 (q := 58) rfl rfl ?_
        refine j_callVv3E (M' := M_X8_lays1) lk_X8_149 mv_X8_lays1 ob_70 (by decide) (Nat.le_of_ble_eq_true rfl) dX8_anHour_58 (q := 61) rfl (ct_X8_lays1 (k := 4) (by omega) (by decide)) ?_
        refine j_iincN_3_1 dX8_anHour_61 (q := 64) rfl rfl rfl ?_
        refine j_goto (q := 2) dX8_anHour_64 (by decide) ?_
        refine ih (i + 1) _ _ (by omega) ?_ (fun x h1 h2 h3 => (up_row h1).trans ((up_row h1).trans (hO1 x h1 h2 h3)))
        rw [up_own, up_own, hs1]
        exact (if_neg c_28).symm
theorem ct_X8_anHour {g : GT} {σ : S_} {nf : Nat} (hB : BD (σ 71)) (hn : σ 71 5 = nI nf) (h7 : nf ≤ 7) : CT g 4 M_X8_anHour [.ref 70] σ (ZM σ (hourN (σ 71) nf)) := by
  refine ct_of [.ref 70, .null, .null] pn_X8_anHour rfl (Nat.le_of_ble_eq_true rfl) ?_
  refine j_iconst (v := 0) dX8_anHour_0 (q := 1) rfl (by decide) ?_
  refine j_istore_n_3_1 dX8_anHour_1 (q := 2) rfl rfl rfl ?_
  exact gm1 hB hn h7 nf 0 _ σ (by omega) rfl (fun _ _ _ _ => rfl)
def hoursN (t : Nat → Int32) (nf : Nat) : Nat → Nat → Int32
  | 0 => t
  | k + 1 => hourN (hoursN t nf k) nf
theorem hourN_keep {t : Nat → Int32} {nf m : Nat} (h7 : nf ≤ 7) (h : (2 ≤ m ∧ m < 7) ∨ 52 ≤ m) : hourN t nf m = t m := by
  unfold hourN
  rw [upd_ne (by omega), wat_keep 3 (by decide) (by omega), hfarms_keep (by omega) nf h7 (by omega)]
theorem hoursN_keep {t : Nat → Int32} {nf m : Nat} (h7 : nf ≤ 7) (h : (2 ≤ m ∧ m < 7) ∨ 52 ≤ m) : ∀ k, hoursN t nf k m = t m := by
  intro k
  induction k with
  | zero => rfl
  | succ k ih => show hourN (hoursN t nf k) nf m = t m; rw [hourN_keep h7 h, ih]
theorem BD_hoursN {t : Nat → Int32} (h : BD t) {nf : Nat} (h7 : nf ≤ 7) : ∀ k, BD (hoursN t nf k) := by
  intro k
  induction k with
  | zero => exact h
  | succ k ih => exact BD_hourN ih h7
def ZHi (σ : S_) (t : Nat → Int32) (x : Int32) : Value → S_ → Prop := fun r τ => r = .int x ∧ CW τ 8 t ∧ outN τ σ
def ZMi (σ : S_) (t : Nat → Int32) (x : Int32) : Value → S_ → Prop := fun r τ => r = .int x ∧ τ 71 = t ∧ outM τ σ
theorem hc_loop {g : GT} {t : Nat → Int32} {nf n : Nat} {σ0 : S_} (hB : BD t) (hn : t 5 = nI nf) (h7 : nf ≤ 7) (h72 : n ≤ 72) : ∀ (k i : Nat) (σ : S_), i + k = n → CW σ 8 (hoursN t nf i) → outN σ σ0 → J g 5 M_X7_hours (ZHi σ0 (hoursN t nf n) (hoursN t nf n 1)) 39 [.ref 0, .int (nI n), .int (nI i)] [] σ := by
  intro k
  induction k with
  | zero =>
    intro i σ hik hC hO
    refine j_iload_n dX7_hours_39 (q := 40) rfl rfl ?_
    refine j_iload_n dX7_hours_40 (q := 41) rfl rfl ?_
    refine j_icmp_geN (by omega) (by omega) dX7_hours_41 (t := 57) (by decide) (q := 44) rfl (fun c_41 => ?_) (fun c_41 => ?_)
    · skip
      rw [show i = n by omega] at hC
      refine j_aload_n dX7_hours_57 (q := 58) rfl rfl ?_
      refine j_getR (r := 8) fs_X7_10 rfl rfl rfl dX7_hours_58 (q := 61) rfl ?_
      refine j_getIV fs_X7_194 rfl rfl (hC.at LM_parched) dX7_hours_61 (q := 64) rfl ?_
      refine j_ireti dX7_hours_64 rfl ?_
      exact ⟨rfl, hC, hO⟩
    · skip
      omega
  | succ k ih =>
    intro i σ hik hC hO
    refine j_iload_n dX7_hours_39 (q := 40) rfl rfl ?_
    refine j_iload_n dX7_hours_40 (q := 41) rfl rfl ?_
    refine j_icmp_geN (by omega) (by omega) dX7_hours_41 (t := 57) (by decide) (q := 44) rfl (fun c_41 => ?_) (fun c_41 => ?_)
    · skip
      omega
    · skip
      refine j_aload_n dX7_hours_44 (q := 45) rfl rfl ?_
      refine j_getR (r := 8) fs_X7_10 rfl rfl rfl dX7_hours_45 (q := 48) rfl ?_
      refine j_callVv0 (M' := M_X6_goOnAnHour) lk_X7_191 mv_X6_goOnAnHour ob_8 (by decide) (Nat.le_of_ble_eq_true rfl) dX7_hours_48 (q := 51) rfl (ct_X6_goOnAnHour (BD_hoursN hB h7 i) ((hoursN_keep h7 (by omega) i).trans hn) h7 hC) ?_
      intro τ1 hz
      obtain ⟨-, hC1, hO1⟩ := hz
      refine j_iincN_3_2 dX7_hours_51 (q := 54) rfl rfl rfl ?_
      refine j_goto (q := 39) dX7_hours_54 (by decide) ?_
      exact ih (i + 1) τ1 (by omega) hC1 (fun x hx => (hO1 x hx).trans (hO x hx))
theorem hm_loop {g : GT} {t : Nat → Int32} {nf n : Nat} {σ0 : S_} {v2 : Value} (hB : BD t) (hn : t 5 = nI nf) (h7 : nf ≤ 7) (h72 : n ≤ 72) (hv2 : v2.category = 1) : ∀ (k i : Nat) (σ : S_), i + k = n → σ 71 = hoursN t nf i → outM σ σ0 → J g 5 M_X8_hours (ZMi σ0 (hoursN t nf n) (hoursN t nf n 1)) 20 [.ref 70, .int (nI n), v2, .int (nI i)] [] σ := by
  intro k
  induction k with
  | zero =>
    intro i σ hik hs hO
    refine j_iload_n dX8_hours_20 (q := 21) rfl rfl ?_
    refine j_iload_n dX8_hours_21 (q := 22) rfl rfl ?_
    refine j_icmp_geN (by omega) (by omega) dX8_hours_22 (t := 35) (by decide) (q := 25) rfl (fun c_22 => ?_) (fun c_22 => ?_)
    · skip
      rw [show i = n by omega] at hs
      refine j_aload_n dX8_hours_35 (q := 36) rfl rfl ?_
      refine j_getR (r := 71) fs_X8_7 rfl rfl rfl dX8_hours_36 (q := 39) rfl ?_
      refine j_iconst (v := 1) dX8_hours_39 (q := 40) rfl (by decide) ?_
      refine j_ialdV (k := 1) rfl (by decide) (congrFun hs 1) dX8_hours_40 (q := 41) rfl ?_
      refine j_ireti dX8_hours_41 rfl ?_
      exact ⟨rfl, hs, hO⟩
    · skip
      omega
  | succ k ih =>
    intro i σ hik hs hO
    refine j_iload_n dX8_hours_20 (q := 21) rfl rfl ?_
    refine j_iload_n dX8_hours_21 (q := 22) rfl rfl ?_
    refine j_icmp_geN (by omega) (by omega) dX8_hours_22 (t := 35) (by decide) (q := 25) rfl (fun c_22 => ?_) (fun c_22 => ?_)
    · skip
      omega
    · skip
      refine j_aload_n dX8_hours_25 (q := 26) rfl rfl ?_
      refine j_callVv0 (M' := M_X8_anHour) lk_X8_187 mv_X8_anHour ob_70 (by decide) (Nat.le_of_ble_eq_true rfl) dX8_hours_26 (q := 29) rfl (ct_X8_anHour (by rw [hs]; exact BD_hoursN hB h7 i) ((congrFun hs 5).trans ((hoursN_keep h7 (by omega) i).trans hn)) h7) ?_
      intro τ1 hz
      obtain ⟨-, hs1, hO1⟩ := hz
      rw [hs] at hs1
      refine j_iincN_4_3 dX8_hours_29 (q := 32) rfl rfl hv2 ?_
      refine j_goto (q := 20) dX8_hours_32 (by decide) ?_
      exact ih (i + 1) τ1 (by omega) hs1 (fun x h1 h2 h3 => (hO1 x h1 h2 h3).trans (hO x h1 h2 h3))
