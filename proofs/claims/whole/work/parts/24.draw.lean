theorem dryS_bw {t : Nat → Int32} (h : BD t) (set : Int32) : ∀ n, n ≤ 7 → bw (dryS t set n) (nI (99 * n)) := by
  intro n
  induction n with
  | zero => intro _; show (0 : Int32) ≤ 0 ∧ (0 : Int32) ≤ nI 0; decide
  | succ n ih =>
    intro hn
    have h1 := ih (by omega)
    unfold dryS
    split
    · rw [show 99 * (n + 1) = 99 * n + 99 by omega]
      exact bw_add h1 (h.fb (by omega)).2.2.2.2.1 (by omega) (by decide)
    · exact ⟨h1.1, Int32.le_trans h1.2 (nI_le (by omega) (by omega))⟩
theorem shl1 {n : Nat} (h : n ≤ 7) : (1 : Int32) <<< (nI n &&& 31) = nI (2 ^ n) := by
  rcases (show n = 0 ∨ n = 1 ∨ n = 2 ∨ n = 3 ∨ n = 4 ∨ n = 5 ∨ n = 6 ∨ n = 7 by omega) with rfl | rfl | rfl | rfl | rfl | rfl | rfl | rfl <;> decide
theorem shl1m {n : Nat} (h : n ≤ 7) : (1 : Int32) <<< (nI n &&& 31) - 1 = nI (2 ^ n - 1) := by
  rcases (show n = 0 ∨ n = 1 ∨ n = 2 ∨ n = 3 ∨ n = 4 ∨ n = 5 ∨ n = 6 ∨ n = 7 by omega) with rfl | rfl | rfl | rfl | rfl | rfl | rfl | rfl <;> decide
section JR4
variable {g : GT} {d : Nat} {M : MM} {Z : Value → S_ → Prop} {pc q : Nat} {ls st : List Value} {σ : S_}
theorem j_iremN {a b : Nat} (ha : a < 2 ^ 31) (h0 : 0 < b) (hb : b < 2 ^ 31) (hdg : decode M.2.1 pc = .ok (.irem, 1)) (hq : pc + 1 = q) (h : J g d M Z q ls (.int (nI (a % b)) :: st) σ) : J g d M Z pc ls (.int (nI b) :: .int (nI a) :: st) σ := j_irem hdg hq (fun e => by have := (nI_eq (b := 0) hb (by decide)).mp e; omega) (by rw [pk_rem ha h0 hb]; exact h)
theorem j_shl1 {n : Nat} (hn : n ≤ 7) (hdg : decode M.2.1 pc = .ok (.ishl, 1)) (hq : pc + 1 = q) (h : J g d M Z q ls (.int (nI (2 ^ n)) :: st) σ) : J g d M Z pc ls (.int (nI n) :: .int 1 :: st) σ := j_ishl hdg hq (by rw [shl1 hn]; exact h)
end JR4
theorem ct_X6_allFarms {g : GT} {σ : S_}  : CT g 0 M_X6_allFarms [.ref 8] σ (EQ (.int ((1 <<< (σ 8 1 &&& 31)) - 1)) σ) := by
  refine ct_of [.ref 8] pn_X6_allFarms rfl (Nat.le_of_ble_eq_true rfl) ?_
  refine j_iconst (v := 1) dX6_allFarms_0 (q := 1) rfl (by decide) ?_
  refine j_aload_n dX6_allFarms_1 (q := 2) rfl rfl ?_
  refine j_getI fs_X6_59 rfl rfl dX6_allFarms_2 (q := 5) rfl ?_
  refine j_ishl dX6_allFarms_5 (q := 6) rfl ?_
  refine j_iconst (v := 1) dX6_allFarms_6 (q := 7) rfl (by decide) ?_
  refine j_isub dX6_allFarms_7 (q := 8) rfl ?_
  refine j_ireti dX6_allFarms_8 rfl ?_
  exact ⟨rfl, rfl⟩
theorem ct_X7_carry_no {g : GT} {σ : S_} {c s p : Int32} (h : ¬ ((0 ≤ c ∧ c ≤ σ 8 4 - 1) ∧ (1 ≤ s ∧ s ≤ (1 <<< (σ 8 1 &&& 31)) - 1) ∧ (0 ≤ p ∧ p ≤ 2))) : CT g 2 M_X7_carry [.ref 0, .int c, .int s, .int p] σ (EQ (.int (-1000000001)) (rfz σ 1)) := by
  refine ct_of [.ref 0, .int c, .int s, .int p] pn_X7_carry rfl (Nat.le_of_ble_eq_true rfl) ?_
  refine j_aload_n dX7_carry_0 (q := 1) rfl rfl ?_
  refine j_iload_n dX7_carry_1 (q := 2) rfl rfl ?_
  refine j_callVi1E (M' := M_X7_isCarrier) lk_X7_128 mv_X7_isCarrier ob_0 (by decide) (Nat.le_of_ble_eq_true rfl) dX7_carry_2 (q := 5) rfl (ct_X7_isCarrier) ?_
  refine j_ifeqB dX7_carry_5 (t := 30) (by decide) (q := 8) rfl (fun c_5 => ?_) (fun c_5 => ?_)
  · skip
    refine j_iload_n dX7_carry_8 (q := 9) rfl rfl ?_
    refine j_iconst (v := 1) dX7_carry_9 (q := 10) rfl (by decide) ?_
    refine j_aload_n dX7_carry_10 (q := 11) rfl rfl ?_
    refine j_getR (r := 8) fs_X7_10 rfl rfl rfl dX7_carry_11 (q := 14) rfl ?_
    refine j_callVi0E (M' := M_X6_allFarms) lk_X7_137 mv_X6_allFarms ob_8 (by decide) (Nat.le_of_ble_eq_true rfl) dX7_carry_14 (q := 17) rfl (ct_X6_allFarms) ?_
    refine j_callSi3E (M' := M_X7_within) lk_X7_57 ms_X7_within (by decide) (Nat.le_of_ble_eq_true rfl) dX7_carry_17 (q := 20) rfl (ct_X7_within) ?_
    refine j_ifeqB dX7_carry_20 (t := 30) (by decide) (q := 23) rfl (fun c_20 => ?_) (fun c_20 => ?_)
    · skip
      refine j_iload_n dX7_carry_23 (q := 24) rfl rfl ?_
      refine j_callSi1E (M' := M_X7_isPool) lk_X7_131 ms_X7_isPool (by decide) (Nat.le_of_ble_eq_true rfl) dX7_carry_24 (q := 27) rfl (ct_X7_isPool) ?_
      refine j_ifneB dX7_carry_27 (t := 36) (by decide) (q := 30) rfl (fun c_27 => ?_) (fun c_27 => ?_)
      · skip
        exact absurd ⟨c_5, c_20, c_27⟩ h
      · skip
        refine j_aload_n dX7_carry_30 (q := 31) rfl rfl ?_
        refine j_iconst (v := 1) dX7_carry_31 (q := 32) rfl (by decide) ?_
        refine j_callVi1E (M' := M_X7_refuse) lk_X7_61 mv_X7_refuse ob_0 (by decide) (Nat.le_of_ble_eq_true rfl) dX7_carry_32 (q := 35) rfl (ct_ref1) ?_
        refine j_ireti dX7_carry_35 rfl ?_
        exact ⟨rfl, rfl⟩
    · skip
      refine j_aload_n dX7_carry_30 (q := 31) rfl rfl ?_
      refine j_iconst (v := 1) dX7_carry_31 (q := 32) rfl (by decide) ?_
      refine j_callVi1E (M' := M_X7_refuse) lk_X7_61 mv_X7_refuse ob_0 (by decide) (Nat.le_of_ble_eq_true rfl) dX7_carry_32 (q := 35) rfl (ct_ref1) ?_
      refine j_ireti dX7_carry_35 rfl ?_
      exact ⟨rfl, rfl⟩
  · skip
    refine j_aload_n dX7_carry_30 (q := 31) rfl rfl ?_
    refine j_iconst (v := 1) dX7_carry_31 (q := 32) rfl (by decide) ?_
    refine j_callVi1E (M' := M_X7_refuse) lk_X7_61 mv_X7_refuse ob_0 (by decide) (Nat.le_of_ble_eq_true rfl) dX7_carry_32 (q := 35) rfl (ct_ref1) ?_
    refine j_ireti dX7_carry_35 rfl ?_
    exact ⟨rfl, rfl⟩
theorem ct_X8_carry_no {g : GT} {σ : S_} {c s p : Int32} (h : ¬ ((0 ≤ c ∧ c ≤ σ 71 6 - 1) ∧ (1 ≤ s ∧ s ≤ (1 <<< (σ 71 5 &&& 31)) - 1) ∧ (0 ≤ p ∧ p ≤ 2))) : CT g 2 M_X8_carry [.ref 70, .int c, .int s, .int p] σ (EQ (.int (-1000000001)) (rfm σ 1)) := by
  refine ct_of [.ref 70, .int c, .int s, .int p] pn_X8_carry rfl (Nat.le_of_ble_eq_true rfl) ?_
  refine j_aload_n dX8_carry_0 (q := 1) rfl rfl ?_
  refine j_iload_n dX8_carry_1 (q := 2) rfl rfl ?_
  refine j_callVi1E (M' := M_X8_isCarrier) lk_X8_175 mv_X8_isCarrier ob_70 (by decide) (Nat.le_of_ble_eq_true rfl) dX8_carry_2 (q := 5) rfl (ct_X8_isCarrier) ?_
  refine j_ifeqB dX8_carry_5 (t := 35) (by decide) (q := 8) rfl (fun c_5 => ?_) (fun c_5 => ?_)
  · skip
    refine j_iload_n dX8_carry_8 (q := 9) rfl rfl ?_
    refine j_iconst (v := 1) dX8_carry_9 (q := 10) rfl (by decide) ?_
    refine j_iconst (v := 1) dX8_carry_10 (q := 11) rfl (by decide) ?_
    refine j_aload_n dX8_carry_11 (q := 12) rfl rfl ?_
    refine j_getR (r := 71) fs_X8_7 rfl rfl rfl dX8_carry_12 (q := 15) rfl ?_
    refine j_iconst (v := 5) dX8_carry_15 (q := 16) rfl (by decide) ?_
    refine j_ialdN (k := 5) rfl (by decide) dX8_carry_16 (q := 17) rfl ?_
    refine j_ishl dX8_carry_17 (q := 18) rfl ?_
    refine j_iconst (v := 1) dX8_carry_18 (q := 19) rfl (by decide) ?_
    refine j_isub dX8_carry_19 (q := 20) rfl ?_
    refine j_callSi3E (M' := M_X8_in) lk_X8_59 ms_X8_in (by decide) (Nat.le_of_ble_eq_true rfl) dX8_carry_20 (q := 23) rfl (ct_X8_in) ?_
    refine j_ifeqB dX8_carry_23 (t := 35) (by decide) (q := 26) rfl (fun c_23 => ?_) (fun c_23 => ?_)
    · skip
      refine j_iload_n dX8_carry_26 (q := 27) rfl rfl ?_
      refine j_iconst (v := 0) dX8_carry_27 (q := 28) rfl (by decide) ?_
      refine j_iconst (v := 2) dX8_carry_28 (q := 29) rfl (by decide) ?_
      refine j_callSi3E (M' := M_X8_in) lk_X8_59 ms_X8_in (by decide) (Nat.le_of_ble_eq_true rfl) dX8_carry_29 (q := 32) rfl (ct_X8_in) ?_
      refine j_ifneB dX8_carry_32 (t := 41) (by decide) (q := 35) rfl (fun c_32 => ?_) (fun c_32 => ?_)
      · skip
        exact absurd ⟨c_5, c_23, c_32⟩ h
      · skip
        refine j_aload_n dX8_carry_35 (q := 36) rfl rfl ?_
        refine j_iconst (v := 1) dX8_carry_36 (q := 37) rfl (by decide) ?_
        refine j_callVi1E (M' := M_X8_error) lk_X8_63 mv_X8_error ob_70 (by decide) (Nat.le_of_ble_eq_true rfl) dX8_carry_37 (q := 40) rfl (ct_err1) ?_
        refine j_ireti dX8_carry_40 rfl ?_
        exact ⟨rfl, rfl⟩
    · skip
      refine j_aload_n dX8_carry_35 (q := 36) rfl rfl ?_
      refine j_iconst (v := 1) dX8_carry_36 (q := 37) rfl (by decide) ?_
      refine j_callVi1E (M' := M_X8_error) lk_X8_63 mv_X8_error ob_70 (by decide) (Nat.le_of_ble_eq_true rfl) dX8_carry_37 (q := 40) rfl (ct_err1) ?_
      refine j_ireti dX8_carry_40 rfl ?_
      exact ⟨rfl, rfl⟩
  · skip
    refine j_aload_n dX8_carry_35 (q := 36) rfl rfl ?_
    refine j_iconst (v := 1) dX8_carry_36 (q := 37) rfl (by decide) ?_
    refine j_callVi1E (M' := M_X8_error) lk_X8_63 mv_X8_error ob_70 (by decide) (Nat.le_of_ble_eq_true rfl) dX8_carry_37 (q := 40) rfl (ct_err1) ?_
    refine j_ireti dX8_carry_40 rfl ?_
    exact ⟨rfl, rfl⟩
theorem ct_X7_carry_st {g : GT} {σ : S_} {t : Nat → Int32} {nf nc c p : Nat} {set : Int32} (hB : BD t) (hn : t 5 = nI nf) (h7 : nf ≤ 7) (hcn : t 6 = nI nc) (h4 : nc ≤ 4) (hc : c < nc) (hp : p < 3) (ps : 1 ≤ set ∧ set ≤ (1 <<< (t 5 &&& 31)) - 1) (hC : CW σ 8 t) (hm : ¬ (dryS t set nf ≤ t (52 + 2 * c) ∧ dryS t set nf ≤ t (7 + p))) : CT g 2 M_X7_carry [.ref 0, .int (nI c), .int set, .int (nI p)] σ (EQ (.int (-1000000003)) (rfz σ 3)) := by
  have ps7 : 1 ≤ set ∧ set ≤ (1 <<< (σ 8 1 &&& 31)) - 1 := by rw [show σ 8 1 = t 5 from hC.at LM_farms]; exact ps
  refine ct_of [.ref 0, .int (nI c), .int set, .int (nI p)] pn_X7_carry rfl (Nat.le_of_ble_eq_true rfl) ?_
  refine j_aload_n dX7_carry_0 (q := 1) rfl rfl ?_
  refine j_iload_n dX7_carry_1 (q := 2) rfl rfl ?_
  refine j_callVi1E (M' := M_X7_isCarrier) lk_X7_128 mv_X7_isCarrier ob_0 (by decide) (Nat.le_of_ble_eq_true rfl) dX7_carry_2 (q := 5) rfl (ct_X7_isCarrier) ?_
  refine j_ifeqB dX7_carry_5 (t := 30) (by decide) (q := 8) rfl (fun c_5 => ?_) (fun c_5 => ?_)
  · skip
    refine j_iload_n dX7_carry_8 (q := 9) rfl rfl ?_
    refine j_iconst (v := 1) dX7_carry_9 (q := 10) rfl (by decide) ?_
    refine j_aload_n dX7_carry_10 (q := 11) rfl rfl ?_
    refine j_getR (r := 8) fs_X7_10 rfl rfl rfl dX7_carry_11 (q := 14) rfl ?_
    refine j_callVi0E (M' := M_X6_allFarms) lk_X7_137 mv_X6_allFarms ob_8 (by decide) (Nat.le_of_ble_eq_true rfl) dX7_carry_14 (q := 17) rfl (ct_X6_allFarms) ?_
    refine j_callSi3E (M' := M_X7_within) lk_X7_57 ms_X7_within (by decide) (Nat.le_of_ble_eq_true rfl) dX7_carry_17 (q := 20) rfl (ct_X7_within) ?_
    refine j_ifeqB dX7_carry_20 (t := 30) (by decide) (q := 23) rfl (fun c_20 => ?_) (fun c_20 => ?_)
    · skip
      refine j_iload_n dX7_carry_23 (q := 24) rfl rfl ?_
      refine j_callSi1E (M' := M_X7_isPool) lk_X7_131 ms_X7_isPool (by decide) (Nat.le_of_ble_eq_true rfl) dX7_carry_24 (q := 27) rfl (ct_X7_isPool) ?_
      refine j_ifneB dX7_carry_27 (t := 36) (by decide) (q := 30) rfl (fun c_27 => ?_) (fun c_27 => ?_)
      · skip
        refine j_aload_n dX7_carry_36 (q := 37) rfl rfl ?_
        refine j_getR (r := 8) fs_X7_10 rfl rfl rfl dX7_carry_37 (q := 40) rfl ?_
        refine j_iload_n dX7_carry_40 (q := 41) rfl rfl ?_
        refine j_iload_n dX7_carry_41 (q := 42) rfl rfl ?_
        refine j_iload_n dX7_carry_42 (q := 43) rfl rfl ?_
        refine j_callVi3E (M' := M_X6_mayBeCarried) lk_X7_141 mv_X6_mayBeCarried ob_8 (by decide) (Nat.le_of_ble_eq_true rfl) dX7_carry_43 (q := 46) rfl (ct_X6_mayBeCarried hC hn h7 (by omega) hp) ?_
        refine j_ifneB dX7_carry_46 (t := 55) (by decide) (q := 49) rfl (fun c_46 => ?_) (fun c_46 => ?_)
        · skip
          exact absurd c_46 hm
        · skip
          refine j_aload_n dX7_carry_49 (q := 50) rfl rfl ?_
          refine j_iconst (v := 3) dX7_carry_50 (q := 51) rfl (by decide) ?_
          refine j_callVi1E (M' := M_X7_refuse) lk_X7_61 mv_X7_refuse ob_0 (by decide) (Nat.le_of_ble_eq_true rfl) dX7_carry_51 (q := 54) rfl (ct_ref3) ?_
          refine j_ireti dX7_carry_54 rfl ?_
          exact ⟨rfl, rfl⟩
      · skip
        exact absurd (inK (b := 2) (by omega) (by decide)) c_27
    · skip
      exact absurd ps7 c_20
  · skip
    exact absurd (inF hc h4 ((hC.at LM_carriers).trans hcn)) c_5
theorem ct_X7_carry_ok {g : GT} {σ : S_} {t : Nat → Int32} {nf nc c p : Nat} {set : Int32} (hB : BD t) (hn : t 5 = nI nf) (h7 : nf ≤ 7) (hcn : t 6 = nI nc) (h4 : nc ≤ 4) (hc : c < nc) (hp : p < 3) (ps : 1 ≤ set ∧ set ≤ (1 <<< (t 5 &&& 31)) - 1) (hC : CW σ 8 t) (hm : dryS t set nf ≤ t (52 + 2 * c) ∧ dryS t set nf ≤ t (7 + p)) : CT g 6 M_X7_carry [.ref 0, .int (nI c), .int set, .int (nI p)] σ (ZHi σ (carT t c set p nf) (payS t set nf)) := by
  have ps7 : 1 ≤ set ∧ set ≤ (1 <<< (σ 8 1 &&& 31)) - 1 := by rw [show σ 8 1 = t 5 from hC.at LM_farms]; exact ps
  refine ct_of [.ref 0, .int (nI c), .int set, .int (nI p)] pn_X7_carry rfl (Nat.le_of_ble_eq_true rfl) ?_
  refine j_aload_n dX7_carry_0 (q := 1) rfl rfl ?_
  refine j_iload_n dX7_carry_1 (q := 2) rfl rfl ?_
  refine j_callVi1E (M' := M_X7_isCarrier) lk_X7_128 mv_X7_isCarrier ob_0 (by decide) (Nat.le_of_ble_eq_true rfl) dX7_carry_2 (q := 5) rfl (ct_X7_isCarrier) ?_
  refine j_ifeqB dX7_carry_5 (t := 30) (by decide) (q := 8) rfl (fun c_5 => ?_) (fun c_5 => ?_)
  · skip
    refine j_iload_n dX7_carry_8 (q := 9) rfl rfl ?_
    refine j_iconst (v := 1) dX7_carry_9 (q := 10) rfl (by decide) ?_
    refine j_aload_n dX7_carry_10 (q := 11) rfl rfl ?_
    refine j_getR (r := 8) fs_X7_10 rfl rfl rfl dX7_carry_11 (q := 14) rfl ?_
    refine j_callVi0E (M' := M_X6_allFarms) lk_X7_137 mv_X6_allFarms ob_8 (by decide) (Nat.le_of_ble_eq_true rfl) dX7_carry_14 (q := 17) rfl (ct_X6_allFarms) ?_
    refine j_callSi3E (M' := M_X7_within) lk_X7_57 ms_X7_within (by decide) (Nat.le_of_ble_eq_true rfl) dX7_carry_17 (q := 20) rfl (ct_X7_within) ?_
    refine j_ifeqB dX7_carry_20 (t := 30) (by decide) (q := 23) rfl (fun c_20 => ?_) (fun c_20 => ?_)
    · skip
      refine j_iload_n dX7_carry_23 (q := 24) rfl rfl ?_
      refine j_callSi1E (M' := M_X7_isPool) lk_X7_131 ms_X7_isPool (by decide) (Nat.le_of_ble_eq_true rfl) dX7_carry_24 (q := 27) rfl (ct_X7_isPool) ?_
      refine j_ifneB dX7_carry_27 (t := 36) (by decide) (q := 30) rfl (fun c_27 => ?_) (fun c_27 => ?_)
      · skip
        refine j_aload_n dX7_carry_36 (q := 37) rfl rfl ?_
        refine j_getR (r := 8) fs_X7_10 rfl rfl rfl dX7_carry_37 (q := 40) rfl ?_
        refine j_iload_n dX7_carry_40 (q := 41) rfl rfl ?_
        refine j_iload_n dX7_carry_41 (q := 42) rfl rfl ?_
        refine j_iload_n dX7_carry_42 (q := 43) rfl rfl ?_
        refine j_callVi3E (M' := M_X6_mayBeCarried) lk_X7_141 mv_X6_mayBeCarried ob_8 (by decide) (Nat.le_of_ble_eq_true rfl) dX7_carry_43 (q := 46) rfl (ct_X6_mayBeCarried hC hn h7 (by omega) hp) ?_
        refine j_ifneB dX7_carry_46 (t := 55) (by decide) (q := 49) rfl (fun c_46 => ?_) (fun c_46 => ?_)
        · skip
          refine j_aload_n dX7_carry_55 (q := 56) rfl rfl ?_
          refine j_getR (r := 8) fs_X7_10 rfl rfl rfl dX7_carry_56 (q := 59) rfl ?_
          refine j_iload_n dX7_carry_59 (q := 60) rfl rfl ?_
          refine j_iload_n dX7_carry_60 (q := 61) rfl rfl ?_
          refine j_iload_n dX7_carry_61 (q := 62) rfl rfl ?_
          refine j_callVi3 (M' := M_X6_beCarried) lk_X7_144 mv_X6_beCarried ob_8 (by decide) (Nat.le_of_ble_eq_true rfl) dX7_carry_62 (q := 65) rfl (ct_X6_beCarried hB hC hn h7 (by omega) hp hm.2 (dryS_bw hB set nf h7).1) ?_
          intro x1 τ1 hz
          refine j_ireti dX7_carry_65 rfl ?_
          exact hz
        · skip
          exact absurd hm c_46
      · skip
        exact absurd (inK (b := 2) (by omega) (by decide)) c_27
    · skip
      exact absurd ps7 c_20
  · skip
    exact absurd (inF hc h4 ((hC.at LM_carriers).trans hcn)) c_5
theorem ct_X8_carry_st {g : GT} {σ : S_} {nf nc c p : Nat} {set : Int32} (hB : BD (σ 71)) (hn : σ 71 5 = nI nf) (h7 : nf ≤ 7) (hcn : σ 71 6 = nI nc) (h4 : nc ≤ 4) (hc : c < nc) (hp : p < 3) (ps : 1 ≤ set ∧ set ≤ (1 <<< (σ 71 5 &&& 31)) - 1) (hm : ¬ (dryS (σ 71) set nf ≤ σ 71 (52 + 2 * c) ∧ dryS (σ 71) set nf ≤ σ 71 (7 + p))) : CT g 3 M_X8_carry [.ref 70, .int (nI c), .int set, .int (nI p)] σ (EQ (.int (-1000000003)) (rfm σ 3)) := by
  refine ct_of [.ref 70, .int (nI c), .int set, .int (nI p)] pn_X8_carry rfl (Nat.le_of_ble_eq_true rfl) ?_
  refine j_aload_n dX8_carry_0 (q := 1) rfl rfl ?_
  refine j_iload_n dX8_carry_1 (q := 2) rfl rfl ?_
  refine j_callVi1E (M' := M_X8_isCarrier) lk_X8_175 mv_X8_isCarrier ob_70 (by decide) (Nat.le_of_ble_eq_true rfl) dX8_carry_2 (q := 5) rfl (ct_X8_isCarrier) ?_
  refine j_ifeqB dX8_carry_5 (t := 35) (by decide) (q := 8) rfl (fun c_5 => ?_) (fun c_5 => ?_)
  · skip
    refine j_iload_n dX8_carry_8 (q := 9) rfl rfl ?_
    refine j_iconst (v := 1) dX8_carry_9 (q := 10) rfl (by decide) ?_
    refine j_iconst (v := 1) dX8_carry_10 (q := 11) rfl (by decide) ?_
    refine j_aload_n dX8_carry_11 (q := 12) rfl rfl ?_
    refine j_getR (r := 71) fs_X8_7 rfl rfl rfl dX8_carry_12 (q := 15) rfl ?_
    refine j_iconst (v := 5) dX8_carry_15 (q := 16) rfl (by decide) ?_
    refine j_ialdN (k := 5) rfl (by decide) dX8_carry_16 (q := 17) rfl ?_
    refine j_ishl dX8_carry_17 (q := 18) rfl ?_
    refine j_iconst (v := 1) dX8_carry_18 (q := 19) rfl (by decide) ?_
    refine j_isub dX8_carry_19 (q := 20) rfl ?_
    refine j_callSi3E (M' := M_X8_in) lk_X8_59 ms_X8_in (by decide) (Nat.le_of_ble_eq_true rfl) dX8_carry_20 (q := 23) rfl (ct_X8_in) ?_
    refine j_ifeqB dX8_carry_23 (t := 35) (by decide) (q := 26) rfl (fun c_23 => ?_) (fun c_23 => ?_)
    · skip
      refine j_iload_n dX8_carry_26 (q := 27) rfl rfl ?_
      refine j_iconst (v := 0) dX8_carry_27 (q := 28) rfl (by decide) ?_
      refine j_iconst (v := 2) dX8_carry_28 (q := 29) rfl (by decide) ?_
      refine j_callSi3E (M' := M_X8_in) lk_X8_59 ms_X8_in (by decide) (Nat.le_of_ble_eq_true rfl) dX8_carry_29 (q := 32) rfl (ct_X8_in) ?_
      refine j_ifneB dX8_carry_32 (t := 41) (by decide) (q := 35) rfl (fun c_32 => ?_) (fun c_32 => ?_)
      · skip
        refine j_aload_n dX8_carry_41 (q := 42) rfl rfl ?_
        refine j_iload_n dX8_carry_42 (q := 43) rfl rfl ?_
        refine j_iload_n dX8_carry_43 (q := 44) rfl rfl ?_
        refine j_iload_n dX8_carry_44 (q := 45) rfl rfl ?_
        refine j_callVi3E (M' := M_X8_mayCarry) lk_X8_178 mv_X8_mayCarry ob_70 (by decide) (Nat.le_of_ble_eq_true rfl) dX8_carry_45 (q := 48) rfl (ct_X8_mayCarry hn h7 (by omega) hp) ?_
        refine j_ifeqB dX8_carry_48 (t := 61) (by decide) (q := 51) rfl (fun c_48 => ?_) (fun c_48 => ?_)
        · skip
          exact absurd c_48 hm
        · skip
          refine j_aload_n dX8_carry_61 (q := 62) rfl rfl ?_
          refine j_iconst (v := 3) dX8_carry_62 (q := 63) rfl (by decide) ?_
          refine j_callVi1E (M' := M_X8_error) lk_X8_63 mv_X8_error ob_70 (by decide) (Nat.le_of_ble_eq_true rfl) dX8_carry_63 (q := 66) rfl (ct_err3) ?_
          refine j_ireti dX8_carry_66 rfl ?_
          exact ⟨rfl, rfl⟩
      · skip
        exact absurd (inK (b := 2) (by omega) (by decide)) c_32
    · skip
      exact absurd ps c_23
  · skip
    exact absurd (inF hc h4 hcn) c_5
theorem ct_X8_carry_ok {g : GT} {σ : S_} {nf nc c p : Nat} {set : Int32} (hB : BD (σ 71)) (hn : σ 71 5 = nI nf) (h7 : nf ≤ 7) (hcn : σ 71 6 = nI nc) (h4 : nc ≤ 4) (hc : c < nc) (hp : p < 3) (ps : 1 ≤ set ∧ set ≤ (1 <<< (σ 71 5 &&& 31)) - 1) (hm : dryS (σ 71) set nf ≤ σ 71 (52 + 2 * c) ∧ dryS (σ 71) set nf ≤ σ 71 (7 + p)) : CT g 5 M_X8_carry [.ref 70, .int (nI c), .int set, .int (nI p)] σ (ZMi σ (carT (σ 71) c set p nf) (payS (σ 71) set nf)) := by
  refine ct_of [.ref 70, .int (nI c), .int set, .int (nI p)] pn_X8_carry rfl (Nat.le_of_ble_eq_true rfl) ?_
  refine j_aload_n dX8_carry_0 (q := 1) rfl rfl ?_
  refine j_iload_n dX8_carry_1 (q := 2) rfl rfl ?_
  refine j_callVi1E (M' := M_X8_isCarrier) lk_X8_175 mv_X8_isCarrier ob_70 (by decide) (Nat.le_of_ble_eq_true rfl) dX8_carry_2 (q := 5) rfl (ct_X8_isCarrier) ?_
  refine j_ifeqB dX8_carry_5 (t := 35) (by decide) (q := 8) rfl (fun c_5 => ?_) (fun c_5 => ?_)
  · skip
    refine j_iload_n dX8_carry_8 (q := 9) rfl rfl ?_
    refine j_iconst (v := 1) dX8_carry_9 (q := 10) rfl (by decide) ?_
    refine j_iconst (v := 1) dX8_carry_10 (q := 11) rfl (by decide) ?_
    refine j_aload_n dX8_carry_11 (q := 12) rfl rfl ?_
    refine j_getR (r := 71) fs_X8_7 rfl rfl rfl dX8_carry_12 (q := 15) rfl ?_
    refine j_iconst (v := 5) dX8_carry_15 (q := 16) rfl (by decide) ?_
    refine j_ialdN (k := 5) rfl (by decide) dX8_carry_16 (q := 17) rfl ?_
    refine j_ishl dX8_carry_17 (q := 18) rfl ?_
    refine j_iconst (v := 1) dX8_carry_18 (q := 19) rfl (by decide) ?_
    refine j_isub dX8_carry_19 (q := 20) rfl ?_
    refine j_callSi3E (M' := M_X8_in) lk_X8_59 ms_X8_in (by decide) (Nat.le_of_ble_eq_true rfl) dX8_carry_20 (q := 23) rfl (ct_X8_in) ?_
    refine j_ifeqB dX8_carry_23 (t := 35) (by decide) (q := 26) rfl (fun c_23 => ?_) (fun c_23 => ?_)
    · skip
      refine j_iload_n dX8_carry_26 (q := 27) rfl rfl ?_
      refine j_iconst (v := 0) dX8_carry_27 (q := 28) rfl (by decide) ?_
      refine j_iconst (v := 2) dX8_carry_28 (q := 29) rfl (by decide) ?_
      refine j_callSi3E (M' := M_X8_in) lk_X8_59 ms_X8_in (by decide) (Nat.le_of_ble_eq_true rfl) dX8_carry_29 (q := 32) rfl (ct_X8_in) ?_
      refine j_ifneB dX8_carry_32 (t := 41) (by decide) (q := 35) rfl (fun c_32 => ?_) (fun c_32 => ?_)
      · skip
        refine j_aload_n dX8_carry_41 (q := 42) rfl rfl ?_
        refine j_iload_n dX8_carry_42 (q := 43) rfl rfl ?_
        refine j_iload_n dX8_carry_43 (q := 44) rfl rfl ?_
        refine j_iload_n dX8_carry_44 (q := 45) rfl rfl ?_
        refine j_callVi3E (M' := M_X8_mayCarry) lk_X8_178 mv_X8_mayCarry ob_70 (by decide) (Nat.le_of_ble_eq_true rfl) dX8_carry_45 (q := 48) rfl (ct_X8_mayCarry hn h7 (by omega) hp) ?_
        refine j_ifeqB dX8_carry_48 (t := 61) (by decide) (q := 51) rfl (fun c_48 => ?_) (fun c_48 => ?_)
        · skip
          refine j_aload_n dX8_carry_51 (q := 52) rfl rfl ?_
          refine j_iload_n dX8_carry_52 (q := 53) rfl rfl ?_
          refine j_iload_n dX8_carry_53 (q := 54) rfl rfl ?_
          refine j_iload_n dX8_carry_54 (q := 55) rfl rfl ?_
          refine j_callVi3 (M' := M_X8_carries) lk_X8_181 mv_X8_carries ob_70 (by decide) (Nat.le_of_ble_eq_true rfl) dX8_carry_55 (q := 58) rfl (ct_X8_carries hB hn h7 (by omega) hp hm.2 (dryS_bw hB set nf h7).1) ?_
          intro x1 τ1 hz
          refine j_goto (q := 66) dX8_carry_58 (by decide) ?_
          refine j_ireti dX8_carry_66 rfl ?_
          exact hz
        · skip
          exact absurd hm c_48
      · skip
        exact absurd (inK (b := 2) (by omega) (by decide)) c_32
    · skip
      exact absurd ps c_23
  · skip
    exact absurd (inF hc h4 hcn) c_5
abbrev lcg (z : Int32) : Int32 := z * 1103515245 + 12345
def drN (z : Int32) : Nat := z.toBitVec.toNat / 256
theorem drN_lt (z : Int32) : drN z < 2 ^ 24 := by have := z.toBitVec.isLt; unfold drN; omega
theorem of_toNat {x : Int32} {n : Nat} (h : x.toBitVec.toNat = n) : x = nI n := by
  apply Int32.toBitVec_inj.mp
  apply BitVec.eq_of_toNat_eq
  have hl := x.toBitVec.isLt
  rw [pk_tn (by omega)]
  exact h
theorem drN_eq (z : Int32) : (z.toUInt32 >>> ((8 : Int32).toUInt32 &&& Int32.toUInt32 31)).toInt32 = nI (drN z) := of_toNat (pk_ushr z 8 8 (by decide))
theorem ct_X6_drawn {g : GT} {σ : S_}  : CT g 0 M_X6_drawn [.ref 8] σ (EQ (.int (nI (drN (lcg (σ 8 8))))) (up σ 8 8 (lcg (σ 8 8)))) := by
  refine ct_of [.ref 8] pn_X6_drawn rfl (Nat.le_of_ble_eq_true rfl) ?_
  refine j_aload_n dX6_drawn_0 (q := 1) rfl rfl ?_
  refine j_aload_n dX6_drawn_1 (q := 2) rfl rfl ?_
  refine j_getI fs_X6_27 rfl rfl dX6_drawn_2 (q := 5) rfl ?_
  refine j_ldc cn_X6_136 dX6_drawn_5 (q := 7) rfl ?_
  refine j_imul dX6_drawn_7 (q := 8) rfl ?_
  refine j_sipush (v := 12345) dX6_drawn_8 (q := 11) rfl (by decide) ?_
  refine j_iadd dX6_drawn_11 (q := 12) rfl ?_
  refine j_putI fs_X6_27 rfl rfl fp_6_8 dX6_drawn_12 (q := 15) rfl ?_
  refine j_aload_n dX6_drawn_15 (q := 16) rfl rfl ?_
  refine j_getIV fs_X6_27 rfl rfl up_at dX6_drawn_16 (q := 19) rfl ?_
  refine j_bipush (v := 8) dX6_drawn_19 (q := 21) rfl (by decide) ?_
  refine j_iushr dX6_drawn_21 (q := 22) rfl ?_
  refine j_ireti dX6_drawn_22 rfl ?_
  exact ⟨congrArg Value.int (drN_eq _), rfl⟩
theorem ct_X8_draw {g : GT} {σ : S_}  : CT g 0 M_X8_draw [.ref 70] σ (EQ (.int (nI (drN (lcg (σ 71 2))))) (up σ 71 2 (lcg (σ 71 2)))) := by
  refine ct_of [.ref 70] pn_X8_draw rfl (Nat.le_of_ble_eq_true rfl) ?_
  refine j_aload_n dX8_draw_0 (q := 1) rfl rfl ?_
  refine j_getR (r := 71) fs_X8_7 rfl rfl rfl dX8_draw_1 (q := 4) rfl ?_
  refine j_iconst (v := 2) dX8_draw_4 (q := 5) rfl (by decide) ?_
  refine j_aload_n dX8_draw_5 (q := 6) rfl rfl ?_
  refine j_getR (r := 71) fs_X8_7 rfl rfl rfl dX8_draw_6 (q := 9) rfl ?_
  refine j_iconst (v := 2) dX8_draw_9 (q := 10) rfl (by decide) ?_
  refine j_ialdN (k := 2) rfl (by decide) dX8_draw_10 (q := 11) rfl ?_
  refine j_ldc cn_X8_153 dX8_draw_11 (q := 13) rfl ?_
  refine j_imul dX8_draw_13 (q := 14) rfl ?_
  refine j_sipush (v := 12345) dX8_draw_14 (q := 17) rfl (by decide) ?_
  refine j_iadd dX8_draw_17 (q := 18) rfl ?_
  refine j_iastN (k := 2) rfl (by decide) dX8_draw_18 (q := 19) rfl ?_
  refine j_aload_n dX8_draw_19 (q := 20) rfl rfl ?_
  refine j_getR (r := 71) fs_X8_7 rfl rfl rfl dX8_draw_20 (q := 23) rfl ?_
  refine j_iconst (v := 2) dX8_draw_23 (q := 24) rfl (by decide) ?_
  refine j_ialdV (k := 2) rfl (by decide) up_at dX8_draw_24 (q := 25) rfl ?_
  refine j_bipush (v := 8) dX8_draw_25 (q := 27) rfl (by decide) ?_
  refine j_iushr dX8_draw_27 (q := 28) rfl ?_
  refine j_ireti dX8_draw_28 rfl ?_
  exact ⟨congrArg Value.int (drN_eq _), rfl⟩
def zt (t : Nat → Int32) : Nat → Int32 := upd t 2 (lcg (lcg (lcg (t 2))))
def drC (t : Nat → Int32) (nc : Nat) : Nat := drN (lcg (t 2)) % nc
def drS (t : Nat → Int32) (nf : Nat) : Nat := drN (lcg (lcg (t 2))) % 2 ^ nf
def drP (t : Nat → Int32) : Nat := drN (lcg (lcg (lcg (t 2)))) % 3
def goes (t : Nat → Int32) (nc nf : Nat) : Prop := 0 < drS t nf ∧ dryS (zt t) (nI (drS t nf)) nf ≤ zt t (52 + 2 * drC t nc) ∧ dryS (zt t) (nI (drS t nf)) nf ≤ zt t (7 + drP t)
noncomputable def errN (t : Nat → Int32) (nc nf : Nat) : Nat → Int32 := if nc = 0 ∨ nf = 0 then t else if @decide (goes t nc nf) (Classical.propDecidable _) = true then carT (zt t) (drC t nc) (nI (drS t nf)) (drP t) nf else zt t
noncomputable def errP (t : Nat → Int32) (nc nf : Nat) : Int32 := if nc = 0 ∨ nf = 0 then 0 else if @decide (goes t nc nf) (Classical.propDecidable _) = true then payS (zt t) (nI (drS t nf)) nf else 0
theorem err_0 {t : Nat → Int32} {nc nf : Nat} (h : nc = 0 ∨ nf = 0) : errN t nc nf = t ∧ errP t nc nf = 0 := ⟨if_pos h, if_pos h⟩
theorem err_1 {t : Nat → Int32} {nc nf : Nat} (h : ¬ (nc = 0 ∨ nf = 0)) (hg : goes t nc nf) : errN t nc nf = carT (zt t) (drC t nc) (nI (drS t nf)) (drP t) nf ∧ errP t nc nf = payS (zt t) (nI (drS t nf)) nf := by
  unfold errN errP
  rw [if_neg h, if_neg h, if_pos (by simp [hg]), if_pos (by simp [hg])]
  exact ⟨rfl, rfl⟩
theorem err_2 {t : Nat → Int32} {nc nf : Nat} (h : ¬ (nc = 0 ∨ nf = 0)) (hg : ¬ goes t nc nf) : errN t nc nf = zt t ∧ errP t nc nf = 0 := by
  unfold errN errP
  rw [if_neg h, if_neg h, if_neg (by simp [hg]), if_neg (by simp [hg])]
  exact ⟨rfl, rfl⟩
theorem upd_upd {f : Nat → Int32} {k : Nat} {v v' : Int32} : upd (upd f k v) k v' = upd f k v' := by
  funext j
  by_cases e : j = k
  · subst e; rw [upd_at, upd_at]
  · rw [upd_ne e, upd_ne e, upd_ne e]
theorem dryS_z {t : Nat → Int32} {m : Nat} {v set : Int32} (hm : m < 10) : ∀ n, dryS (upd t m v) set n = dryS t set n := by
  intro n
  induction n with
  | zero => rfl
  | succ n ih => unfold dryS; rw [ih, upd_ne (by omega)]
theorem BD_carT {t : Nat → Int32} (h : BD t) {c p nf : Nat} {set : Int32} (hc : c < 4) (hp : p < 3) (h7 : nf ≤ 7) (hw : dryS t set nf ≤ t (7 + p)) : BD (carT t c set p nf) := by
  have hd := (dryS_bw h set nf h7).1
  have hwb : bw (t (7 + p) - dryS t set nf) 999 := by
    have := h.water hp
    unfold bw at *
    grind
  exact BD_earned (BD_carF (BD_water h hp hwb) nf h7) hc (heldF_bw (by decide))
theorem BD_errN {t : Nat → Int32} (h : BD t) {nc nf : Nat} (h4 : nc ≤ 4) (h7 : nf ≤ 7) : BD (errN t nc nf) := by
  by_cases h0 : nc = 0 ∨ nf = 0
  · rw [(err_0 h0).1]; exact h
  · have hz : BD (zt t) := BD_hour h (Or.inr rfl)
    by_cases hg : goes t nc nf
    · rw [(err_1 h0 hg).1]
      exact BD_carT hz (Nat.lt_of_lt_of_le (Nat.mod_lt _ (by omega)) h4) (Nat.mod_lt _ (by decide)) h7 hg.2.2
    · rw [(err_2 h0 hg).1]; exact hz
theorem carT_keep {t : Nat → Int32} {c p nf m : Nat} {set : Int32} (hc : c < 4) (hp : p < 3) (h7 : nf ≤ 7) (hm : m < 7 ∨ 60 ≤ m) : carT t c set p nf m = t m := by
  unfold carT
  rw [upd_ne (by omega), carF_keep nf h7 (by omega), upd_ne (by omega)]
theorem errN_keep {t : Nat → Int32} {nc nf m : Nat} (h4 : nc ≤ 4) (h7 : nf ≤ 7) (hm : (m < 7 ∨ 60 ≤ m) ∧ m ≠ 2) : errN t nc nf m = t m := by
  by_cases h0 : nc = 0 ∨ nf = 0
  · rw [(err_0 h0).1]
  · by_cases hg : goes t nc nf
    · rw [(err_1 h0 hg).1, carT_keep (show drC t nc < 4 from Nat.lt_of_lt_of_le (Nat.mod_lt _ (by omega)) h4) (show drP t < 3 from Nat.mod_lt _ (by decide)) h7 hm.1]
      exact upd_ne hm.2
    · rw [(err_2 h0 hg).1]; exact upd_ne hm.2
theorem ct_X6_carryByDraws {g : GT} {σ : S_} {t : Nat → Int32} {nf nc : Nat} (hB : BD t) (hn : t 5 = nI nf) (h7 : nf ≤ 7) (hcn : t 6 = nI nc) (h4 : nc ≤ 4) (hC : CW σ 8 t) : CT g 6 M_X6_carryByDraws [.ref 8] σ (ZHi σ (errN t nc nf) (errP t nc nf)) := by
  have h2p : 0 < 2 ^ nf := Nat.two_pow_pos nf
  have h2l : 2 ^ nf ≤ 2 ^ 7 := Nat.pow_le_pow_right (by decide) h7
  have d1 := drN_lt (lcg (t 2))
  have d2 := drN_lt (lcg (lcg (t 2)))
  have d3 := drN_lt (lcg (lcg (lcg (t 2))))
  have hBz : BD (zt t) := BD_hour hB (Or.inr rfl)
  have e8 : σ 8 8 = t 2 := hC.at LM_z
  refine ct_of [.ref 8, .null, .null, .null] pn_X6_carryByDraws rfl (Nat.le_of_ble_eq_true rfl) ?_
  refine j_aload_n dX6_carryByDraws_0 (q := 1) rfl rfl ?_
  refine j_getIV fs_X6_62 rfl rfl ((hC.at LM_carriers).trans hcn) dX6_carryByDraws_1 (q := 4) rfl ?_
  refine j_if_eqN (by omega) dX6_carryByDraws_4 (t := 14) (by decide) (q := 7) rfl (fun c_4 => ?_) (fun c_4 => ?_)
  · skip
    refine j_iconst (v := 0) dX6_carryByDraws_14 (q := 15) rfl (by decide) ?_
    refine j_ireti dX6_carryByDraws_15 rfl ?_
    exact ⟨by rw [(err_0 (by omega)).2], by rw [(err_0 (by omega)).1]; exact hC, fun _ _ => rfl⟩
  · skip
    refine j_aload_n dX6_carryByDraws_7 (q := 8) rfl rfl ?_
    refine j_getIV fs_X6_59 rfl rfl ((hC.at LM_farms).trans hn) dX6_carryByDraws_8 (q := 11) rfl ?_
    refine j_if_neN (by omega) dX6_carryByDraws_11 (t := 16) (by decide) (q := 14) rfl (fun c_11 => ?_) (fun c_11 => ?_)
    · skip
      refine j_aload_n dX6_carryByDraws_16 (q := 17) rfl rfl ?_
      refine j_callVi0E (M' := M_X6_drawn) lk_X6_126 mv_X6_drawn ob_8 (by decide) (Nat.le_of_ble_eq_true rfl) dX6_carryByDraws_17 (q := 20) rfl (ct_X6_drawn) ?_
      rw [e8]
      have hC1 : CW (up σ 8 8 (lcg (t 2))) 8 (upd t 2 (lcg (t 2))) := CW.up hC LM_z _
      have hcn1 : upd t 2 (lcg (t 2)) 6 = nI nc := (upd_ne (by decide)).trans hcn
      refine j_aload_n dX6_carryByDraws_20 (q := 21) rfl rfl ?_
      refine j_getIV fs_X6_62 rfl rfl ((hC1.at LM_carriers).trans hcn1) dX6_carryByDraws_21 (q := 24) rfl ?_
      refine j_iremN (by omega) (by omega) (by omega) dX6_carryByDraws_24 (q := 25) rfl ?_
      refine j_istore_n_4_1 dX6_carryByDraws_25 (q := 26) rfl rfl rfl ?_
      refine j_aload_n dX6_carryByDraws_26 (q := 27) rfl rfl ?_
      refine j_callVi0E (M' := M_X6_drawn) lk_X6_126 mv_X6_drawn ob_8 (by decide) (Nat.le_of_ble_eq_true rfl) dX6_carryByDraws_27 (q := 30) rfl (ct_X6_drawn) ?_
      rw [up_at]
      have hC2 : CW (up (up σ 8 8 (lcg (t 2))) 8 8 (lcg (lcg (t 2)))) 8 (upd (upd t 2 (lcg (t 2))) 2 (lcg (lcg (t 2)))) := CW.up hC1 LM_z _
      have hn2 : upd (upd t 2 (lcg (t 2))) 2 (lcg (lcg (t 2))) 5 = nI nf := (upd_ne (by decide)).trans ((upd_ne (by decide)).trans hn)
      refine j_iconst (v := 1) dX6_carryByDraws_30 (q := 31) rfl (by decide) ?_
      refine j_aload_n dX6_carryByDraws_31 (q := 32) rfl rfl ?_
      refine j_getIV fs_X6_59 rfl rfl ((hC2.at LM_farms).trans hn2) dX6_carryByDraws_32 (q := 35) rfl ?_
      refine j_shl1 h7 dX6_carryByDraws_35 (q := 36) rfl ?_
      refine j_iremN (by omega) (by omega) (by omega) dX6_carryByDraws_36 (q := 37) rfl ?_
      refine j_istore_n_4_2 dX6_carryByDraws_37 (q := 38) rfl rfl rfl ?_
      refine j_aload_n dX6_carryByDraws_38 (q := 39) rfl rfl ?_
      refine j_callVi0E (M' := M_X6_drawn) lk_X6_126 mv_X6_drawn ob_8 (by decide) (Nat.le_of_ble_eq_true rfl) dX6_carryByDraws_39 (q := 42) rfl (ct_X6_drawn) ?_
      rw [up_at]
      have hC3 : CW (up (up (up σ 8 8 (lcg (t 2))) 8 8 (lcg (lcg (t 2)))) 8 8 (lcg (lcg (lcg (t 2))))) 8 (zt t) := by
        have := CW.up hC2 LM_z (lcg (lcg (lcg (t 2))))
        rw [show upd (upd (upd t 2 (lcg (t 2))) 2 (lcg (lcg (t 2)))) (0, 8, 2).2.2 (lcg (lcg (lcg (t 2)))) = zt t from by rw [show ((0, 8, 2) : Nat × Nat × Nat).2.2 = 2 from rfl, upd_upd, upd_upd]; rfl] at this
        exact this
      have hn3 : zt t 5 = nI nf := (upd_ne (by decide)).trans hn
      have hcl : drN (lcg (t 2)) % nc < 4 := Nat.lt_of_lt_of_le (Nat.mod_lt _ (by omega)) h4
      have hpl : drN (lcg (lcg (lcg (t 2)))) % 3 < 3 := Nat.mod_lt _ (by decide)
      have hO3 : outN (up (up (up σ 8 8 (lcg (t 2))) 8 8 (lcg (lcg (t 2)))) 8 8 (lcg (lcg (lcg (t 2))))) σ := fun x hx => (up_row (by omega)).trans ((up_row (by omega)).trans (up_row (by omega)))
      have h0 : ¬ (nc = 0 ∨ nf = 0) := by omega
      refine j_iconst (v := 3) dX6_carryByDraws_42 (q := 43) rfl (by decide) ?_
      refine j_iremN (b := 3) (by omega) (by decide) (by decide) dX6_carryByDraws_43 (q := 44) rfl ?_
      refine j_istore_n_4_3 dX6_carryByDraws_44 (q := 45) rfl rfl rfl ?_
      refine j_iload_n dX6_carryByDraws_45 (q := 46) rfl rfl ?_
      refine j_if_eqN (by omega) dX6_carryByDraws_46 (t := 69) (by decide) (q := 49) rfl (fun c_46 => ?_) (fun c_46 => ?_)
      · skip
        refine j_iconst (v := 0) dX6_carryByDraws_69 (q := 70) rfl (by decide) ?_
        refine j_ireti dX6_carryByDraws_70 rfl ?_
        have hg : ¬ goes t nc nf := fun q => by have := q.1; unfold drS at this; omega
        exact ⟨by rw [(err_2 h0 hg).2], by rw [(err_2 h0 hg).1]; exact hC3, hO3⟩
      · skip
        refine j_aload_n dX6_carryByDraws_49 (q := 50) rfl rfl ?_
        refine j_iload_n dX6_carryByDraws_50 (q := 51) rfl rfl ?_
        refine j_iload_n dX6_carryByDraws_51 (q := 52) rfl rfl ?_
        refine j_iload_n dX6_carryByDraws_52 (q := 53) rfl rfl ?_
        refine j_callVi3E (M' := M_X6_mayBeCarried) lk_X6_129 mv_X6_mayBeCarried ob_8 (by decide) (Nat.le_of_ble_eq_true rfl) dX6_carryByDraws_53 (q := 56) rfl (ct_X6_mayBeCarried hC3 hn3 h7 hcl hpl) ?_
        refine j_ifeqB dX6_carryByDraws_56 (t := 69) (by decide) (q := 59) rfl (fun c_56 => ?_) (fun c_56 => ?_)
        · skip
          refine j_aload_n dX6_carryByDraws_59 (q := 60) rfl rfl ?_
          refine j_iload_n dX6_carryByDraws_60 (q := 61) rfl rfl ?_
          refine j_iload_n dX6_carryByDraws_61 (q := 62) rfl rfl ?_
          refine j_iload_n dX6_carryByDraws_62 (q := 63) rfl rfl ?_
          refine j_callVi3 (M' := M_X6_beCarried) lk_X6_133 mv_X6_beCarried ob_8 (by decide) (Nat.le_of_ble_eq_true rfl) dX6_carryByDraws_63 (q := 66) rfl (ct_X6_beCarried hBz hC3 hn3 h7 hcl hpl c_56.2 (dryS_bw hBz _ nf h7).1) ?_
          intro x1 τ1 hz
          obtain ⟨hz1, hz2, hz3⟩ := hz
          cases hz1
          refine j_goto (q := 70) dX6_carryByDraws_66 (by decide) ?_
          refine j_ireti dX6_carryByDraws_70 rfl ?_
          have hg : goes t nc nf := ⟨by unfold drS; omega, c_56⟩
          exact ⟨by rw [(err_1 h0 hg).2]; rfl, by rw [(err_1 h0 hg).1]; exact hz2, fun x hx => (hz3 x hx).trans (hO3 x hx)⟩
        · skip
          refine j_iconst (v := 0) dX6_carryByDraws_69 (q := 70) rfl (by decide) ?_
          refine j_ireti dX6_carryByDraws_70 rfl ?_
          have hg : ¬ goes t nc nf := fun q => c_56 q.2
          exact ⟨by rw [(err_2 h0 hg).2], by rw [(err_2 h0 hg).1]; exact hC3, hO3⟩
    · skip
      refine j_iconst (v := 0) dX6_carryByDraws_14 (q := 15) rfl (by decide) ?_
      refine j_ireti dX6_carryByDraws_15 rfl ?_
      exact ⟨by rw [(err_0 (by omega)).2], by rw [(err_0 (by omega)).1]; exact hC, fun _ _ => rfl⟩
theorem ct_X8_errand {g : GT} {σ : S_} {t : Nat → Int32} (hs : σ 71 = t) {nf nc : Nat} (hB : BD t) (hn : t 5 = nI nf) (h7 : nf ≤ 7) (hcn : t 6 = nI nc) (h4 : nc ≤ 4) : CT g 5 M_X8_errand [.ref 70] σ (ZMi σ (errN t nc nf) (errP t nc nf)) := by
  have h2p : 0 < 2 ^ nf := Nat.two_pow_pos nf
  have h2l : 2 ^ nf ≤ 2 ^ 7 := Nat.pow_le_pow_right (by decide) h7
  have d1 := drN_lt (lcg (t 2))
  have d2 := drN_lt (lcg (lcg (t 2)))
  have d3 := drN_lt (lcg (lcg (lcg (t 2))))
  have hBz : BD (zt t) := BD_hour hB (Or.inr rfl)
  refine ct_of [.ref 70, .null, .null, .null] pn_X8_errand rfl (Nat.le_of_ble_eq_true rfl) ?_
  refine j_aload_n dX8_errand_0 (q := 1) rfl rfl ?_
  refine j_getR (r := 71) fs_X8_7 rfl rfl rfl dX8_errand_1 (q := 4) rfl ?_
  refine j_bipush (v := 6) dX8_errand_4 (q := 6) rfl (by decide) ?_
  refine j_ialdV (k := 6) rfl (by decide) ((congrFun hs 6).trans hcn) dX8_errand_6 (q := 7) rfl ?_
  refine j_if_eqN (by omega) dX8_errand_7 (t := 19) (by decide) (q := 10) rfl (fun c_7 => ?_) (fun c_7 => ?_)
  · skip
    refine j_iconst (v := 0) dX8_errand_19 (q := 20) rfl (by decide) ?_
    refine j_ireti dX8_errand_20 rfl ?_
    exact ⟨by rw [(err_0 (by omega)).2], by rw [(err_0 (by omega)).1]; exact hs, fun _ _ _ _ => rfl⟩
  · skip
    refine j_aload_n dX8_errand_10 (q := 11) rfl rfl ?_
    refine j_getR (r := 71) fs_X8_7 rfl rfl rfl dX8_errand_11 (q := 14) rfl ?_
    refine j_iconst (v := 5) dX8_errand_14 (q := 15) rfl (by decide) ?_
    refine j_ialdV (k := 5) rfl (by decide) ((congrFun hs 5).trans hn) dX8_errand_15 (q := 16) rfl ?_
    refine j_if_neN (by omega) dX8_errand_16 (t := 21) (by decide) (q := 19) rfl (fun c_16 => ?_) (fun c_16 => ?_)
    · skip
      refine j_aload_n dX8_errand_21 (q := 22) rfl rfl ?_
      refine j_callVi0E (M' := M_X8_draw) lk_X8_190 mv_X8_draw ob_70 (by decide) (Nat.le_of_ble_eq_true rfl) dX8_errand_22 (q := 25) rfl (ct_X8_draw) ?_
      rw [congrFun hs 2]
      have hs1 : up σ 71 2 (lcg (t 2)) 71 = upd t 2 (lcg (t 2)) := by rw [up_own, hs]
      refine j_aload_n dX8_errand_25 (q := 26) rfl rfl ?_
      refine j_getR (r := 71) fs_X8_7 rfl rfl rfl dX8_errand_26 (q := 29) rfl ?_
      refine j_bipush (v := 6) dX8_errand_29 (q := 31) rfl (by decide) ?_
      refine j_ialdV (k := 6) rfl (by decide) ((congrFun hs1 6).trans ((upd_ne (by decide)).trans hcn)) dX8_errand_31 (q := 32) rfl ?_
      refine j_iremN (by omega) (by omega) (by omega) dX8_errand_32 (q := 33) rfl ?_
      refine j_istore_n_4_1 dX8_errand_33 (q := 34) rfl rfl rfl ?_
      refine j_aload_n dX8_errand_34 (q := 35) rfl rfl ?_
      refine j_callVi0E (M' := M_X8_draw) lk_X8_190 mv_X8_draw ob_70 (by decide) (Nat.le_of_ble_eq_true rfl) dX8_errand_35 (q := 38) rfl (ct_X8_draw) ?_
      rw [up_at]
      have hs2 : up (up σ 71 2 (lcg (t 2))) 71 2 (lcg (lcg (t 2))) 71 = upd t 2 (lcg (lcg (t 2))) := by rw [up_own, hs1, upd_upd]
      refine j_iconst (v := 1) dX8_errand_38 (q := 39) rfl (by decide) ?_
      refine j_aload_n dX8_errand_39 (q := 40) rfl rfl ?_
      refine j_getR (r := 71) fs_X8_7 rfl rfl rfl dX8_errand_40 (q := 43) rfl ?_
      refine j_iconst (v := 5) dX8_errand_43 (q := 44) rfl (by decide) ?_
      refine j_ialdV (k := 5) rfl (by decide) ((congrFun hs2 5).trans ((upd_ne (by decide)).trans hn)) dX8_errand_44 (q := 45) rfl ?_
      refine j_shl1 h7 dX8_errand_45 (q := 46) rfl ?_
      refine j_iremN (by omega) (by omega) (by omega) dX8_errand_46 (q := 47) rfl ?_
      refine j_istore_n_4_2 dX8_errand_47 (q := 48) rfl rfl rfl ?_
      refine j_aload_n dX8_errand_48 (q := 49) rfl rfl ?_
      refine j_callVi0E (M' := M_X8_draw) lk_X8_190 mv_X8_draw ob_70 (by decide) (Nat.le_of_ble_eq_true rfl) dX8_errand_49 (q := 52) rfl (ct_X8_draw) ?_
      rw [up_at]
      have hs3 : up (up (up σ 71 2 (lcg (t 2))) 71 2 (lcg (lcg (t 2)))) 71 2 (lcg (lcg (lcg (t 2)))) 71 = zt t := by rw [up_own, hs2, upd_upd]; rfl
      have hn3 : up (up (up σ 71 2 (lcg (t 2))) 71 2 (lcg (lcg (t 2)))) 71 2 (lcg (lcg (lcg (t 2)))) 71 5 = nI nf := (congrFun hs3 5).trans ((upd_ne (by decide)).trans hn)
      have hcl : drN (lcg (t 2)) % nc < 4 := Nat.lt_of_lt_of_le (Nat.mod_lt _ (by omega)) h4
      have hpl : drN (lcg (lcg (lcg (t 2)))) % 3 < 3 := Nat.mod_lt _ (by decide)
      have hO3 : outM (up (up (up σ 71 2 (lcg (t 2))) 71 2 (lcg (lcg (t 2)))) 71 2 (lcg (lcg (lcg (t 2))))) σ := fun x h1 _ _ => (up_row h1).trans ((up_row h1).trans (up_row h1))
      have h0 : ¬ (nc = 0 ∨ nf = 0) := by omega
      refine j_iconst (v := 3) dX8_errand_52 (q := 53) rfl (by decide) ?_
      refine j_iremN (b := 3) (by omega) (by decide) (by decide) dX8_errand_53 (q := 54) rfl ?_
      refine j_istore_n_4_3 dX8_errand_54 (q := 55) rfl rfl rfl ?_
      refine j_iload_n dX8_errand_55 (q := 56) rfl rfl ?_
      refine j_if_leN (by omega) dX8_errand_56 (t := 79) (by decide) (q := 59) rfl (fun c_56 => ?_) (fun c_56 => ?_)
      · skip
        refine j_iconst (v := 0) dX8_errand_79 (q := 80) rfl (by decide) ?_
        refine j_ireti dX8_errand_80 rfl ?_
        have hg : ¬ goes t nc nf := fun q => by have := q.1; unfold drS at this; omega
        exact ⟨by rw [(err_2 h0 hg).2], by rw [(err_2 h0 hg).1]; exact hs3, hO3⟩
      · skip
        refine j_aload_n dX8_errand_59 (q := 60) rfl rfl ?_
        refine j_iload_n dX8_errand_60 (q := 61) rfl rfl ?_
        refine j_iload_n dX8_errand_61 (q := 62) rfl rfl ?_
        refine j_iload_n dX8_errand_62 (q := 63) rfl rfl ?_
        refine j_callVi3E (M' := M_X8_mayCarry) lk_X8_178 mv_X8_mayCarry ob_70 (by decide) (Nat.le_of_ble_eq_true rfl) dX8_errand_63 (q := 66) rfl (ct_X8_mayCarry hn3 h7 hcl hpl) ?_
        refine j_ifeqB dX8_errand_66 (t := 79) (by decide) (q := 69) rfl (fun c_66 => ?_) (fun c_66 => ?_)
        · skip
          refine j_aload_n dX8_errand_69 (q := 70) rfl rfl ?_
          refine j_iload_n dX8_errand_70 (q := 71) rfl rfl ?_
          refine j_iload_n dX8_errand_71 (q := 72) rfl rfl ?_
          refine j_iload_n dX8_errand_72 (q := 73) rfl rfl ?_
          refine j_callVi3 (M' := M_X8_carries) lk_X8_181 mv_X8_carries ob_70 (by decide) (Nat.le_of_ble_eq_true rfl) dX8_errand_73 (q := 76) rfl (ct_X8_carries (by rw [hs3]; exact hBz) hn3 h7 hcl hpl c_66.2 (by rw [hs3]; exact (dryS_bw hBz _ nf h7).1)) ?_
          intro x1 τ1 hz
          obtain ⟨hz1, hz2, hz3⟩ := hz
          cases hz1
          refine j_goto (q := 80) dX8_errand_76 (by decide) ?_
          refine j_ireti dX8_errand_80 rfl ?_
          rw [hs3] at c_66 hz2
          have hg : goes t nc nf := ⟨by unfold drS; omega, c_66⟩
          exact ⟨by rw [(err_1 h0 hg).2, hs3]; rfl, by rw [(err_1 h0 hg).1]; exact hz2, fun x h1 h2 h3 => (hz3 x h1 h2 h3).trans (hO3 x h1 h2 h3)⟩
        · skip
          refine j_iconst (v := 0) dX8_errand_79 (q := 80) rfl (by decide) ?_
          refine j_ireti dX8_errand_80 rfl ?_
          rw [hs3] at c_66
          have hg : ¬ goes t nc nf := fun q => c_66 q.2
          exact ⟨by rw [(err_2 h0 hg).2], by rw [(err_2 h0 hg).1]; exact hs3, hO3⟩
    · skip
      refine j_iconst (v := 0) dX8_errand_19 (q := 20) rfl (by decide) ?_
      refine j_ireti dX8_errand_20 rfl ?_
      exact ⟨by rw [(err_0 (by omega)).2], by rw [(err_0 (by omega)).1]; exact hs, fun _ _ _ _ => rfl⟩
