/-- places of the row that hours leave alone -/
def kM (m : Nat) : Prop := (2 ≤ m ∧ m < 7) ∨ 52 ≤ m ∨ (10 ≤ m ∧ m < 52 ∧ m % 6 ≠ 2)
theorem hfarms_kM {t : Nat → Int32} {m : Nat} (h : kM m) : ∀ i, i ≤ 7 → hfarms t i m = t m := by
  unfold kM at h
  intro i
  induction i with
  | zero => intro _; rfl
  | succ i ih => intro hi; show fstep (hfarms t i) i m = t m; rw [fstep_keep (by omega) (by omega), ih (by omega)]
theorem hourN_kM {t : Nat → Int32} {nf m : Nat} (h7 : nf ≤ 7) (h : kM m) : hourN t nf m = t m := by
  have h' := h
  unfold kM at h'
  unfold hourN
  rw [upd_ne (by omega), wat_keep 3 (by decide) (by omega), hfarms_kM h nf h7]
theorem hoursN_kM {t : Nat → Int32} {nf m : Nat} (h7 : nf ≤ 7) (h : kM m) : ∀ k, hoursN t nf k m = t m := by
  intro k
  induction k with
  | zero => rfl
  | succ k ih => show hourN (hoursN t nf k) nf m = t m; rw [hourN_kM h7 h, ih]
theorem hoursN_0 {t : Nat → Int32} {nf : Nat} (h7 : nf ≤ 7) : ∀ k, hoursN t nf k 0 = t 0 + nI k := by
  intro k
  induction k with
  | zero => exact (Int32.add_zero _).symm
  | succ k ih =>
    show hourN (hoursN t nf k) nf 0 = _
    unfold hourN
    rw [upd_at, wat_keep 3 (by decide) (by omega), hfarms_keep (by decide) nf h7 (by omega), ih, Int32.add_assoc, nI_1]
theorem dryNew_row {a b : Nat → Int32} {i : Nat} (hT : TOK a 0) (h : ∀ m, (10 + 6 * i ≤ m ∧ m < 10 + 6 * i + 6) ∨ m = 0 ∨ 60 ≤ m → a m = b m) : dryNew a i = dryNew b i := by
  unfold dryNew
  rw [h _ (Or.inl (by omega)), h (10 + 6 * i) (Or.inl (by omega)), h (10 + 6 * i + 1) (Or.inl (by omega)), h (10 + 6 * i + 3) (Or.inl (by omega)), h 0 (Or.inr (Or.inl rfl)), growT.row hT (fun k k1 k2 => h k (Or.inr (Or.inr k1)))]
/-- DRY of farm i an hour on -/
def dN (t : Nat → Int32) (i : Nat) : Int32 := if dryNew t i ≤ 99 then dryNew t i else 99
theorem hfarms_lt {t : Nat → Int32} {n m : Nat} (h1 : m ≠ 1) : ∀ i, i ≤ n → n ≤ 7 → (10 + 6 * i ≤ m ∨ m < 10) → hfarms t i m = t m := by
  intro i
  induction i with
  | zero => intro _ _ _; rfl
  | succ i ih => intro a b c; show fstep (hfarms t i) i m = t m; rw [fstep_keep h1 (by omega), ih (by omega) b (by omega)]
theorem hfarms_dry {t : Nat → Int32} (hT : TOK t 0) {i : Nat} : ∀ n, n ≤ 7 → i < n → hfarms t n (10 + 6 * i + 4) = dN t i := by
  intro n
  induction n with
  | zero => intro _ h; omega
  | succ n ih =>
    intro h7 hi
    show fstep (hfarms t n) n (10 + 6 * i + 4) = _
    by_cases e : i = n
    · subst e
      have hd : dryNew (hfarms t i) i = dryNew t i := (dryNew_row hT (fun m hm => (hfarms_lt (n := 7) (by omega) i (by omega) (by decide) (by omega)).symm)).symm
      unfold fstep dN
      rw [hd]
      split
      · rw [upd_at]
      · rw [upd_at]
    · rw [fstep_keep (by omega) (by omega)]
      exact ih (by omega) (by omega)
theorem hourN_dry {t : Nat → Int32} (hT : TOK t 0) {i nf : Nat} (h7 : nf ≤ 7) (hi : i < nf) : hourN t nf (10 + 6 * i + 4) = dN t i := by
  unfold hourN
  rw [upd_ne (by omega), wat_keep 3 (by decide) (by omega), hfarms_dry hT nf h7 hi]
theorem min99 {v : Int32} : (if v < 99 then v else 99) = (if v ≤ 99 then v else 99) := by grind
theorem sa_loop {g : GT} {t : Nat → Int32} {nf : Nat} {σ0 : S_} {Z : Value → S_ → Prop} (hn : t 5 = nI nf) (h7 : nf ≤ 7) (hZ : ∀ τ : S_, (∀ i, i < nf → τ 4 i = t (10 + 6 * i + 4)) → (∀ x, x ≠ 4 → τ x = σ0 x) → Z .null τ) : ∀ (k i : Nat) (σ : S_), i + k = nf → CW σ 8 t → (∀ j, j < i → σ 4 j = t (10 + 6 * j + 4)) → (∀ x, x ≠ 4 → σ x = σ0 x) → J g 0 M_X4_startAhead Z 2 [.ref 3, .int (nI i)] [] σ := by
  intro k
  induction k with
  | zero =>
    intro i σ hik hC hd hO
    refine j_iload_n dX4_startAhead_2 (q := 3) rfl rfl ?_
    refine j_aload_n dX4_startAhead_3 (q := 4) rfl rfl ?_
    refine j_getR (r := 8) fs_X4_24 rfl rfl rfl dX4_startAhead_4 (q := 7) rfl ?_
    refine j_getIV fs_X4_45 rfl rfl ((hC.at LM_farms).trans hn) dX4_startAhead_7 (q := 10) rfl ?_
    refine j_icmp_geN (by omega) (by omega) dX4_startAhead_10 (t := 37) (by decide) (q := 13) rfl (fun c_10 => ?_) (fun c_10 => ?_)
    · skip
      refine j_vret dX4_startAhead_37 rfl ?_
      obtain rfl : i = nf := by omega
      exact hZ σ hd hO
    · skip
      omega
  | succ k ih =>
    intro i σ hik hC hd hO
    refine j_iload_n dX4_startAhead_2 (q := 3) rfl rfl ?_
    refine j_aload_n dX4_startAhead_3 (q := 4) rfl rfl ?_
    refine j_getR (r := 8) fs_X4_24 rfl rfl rfl dX4_startAhead_4 (q := 7) rfl ?_
    refine j_getIV fs_X4_45 rfl rfl ((hC.at LM_farms).trans hn) dX4_startAhead_7 (q := 10) rfl ?_
    refine j_icmp_geN (by omega) (by omega) dX4_startAhead_10 (t := 37) (by decide) (q := 13) rfl (fun c_10 => ?_) (fun c_10 => ?_)
    · skip
      omega
    · skip
      refine j_aload_n dX4_startAhead_13 (q := 14) rfl rfl ?_
      refine j_getR (r := 4) fs_X4_9 rfl rfl rfl dX4_startAhead_14 (q := 17) rfl ?_
      refine j_iload_n dX4_startAhead_17 (q := 18) rfl rfl ?_
      refine j_aload_n dX4_startAhead_18 (q := 19) rfl rfl ?_
      refine j_getR (r := 8) fs_X4_24 rfl rfl rfl dX4_startAhead_19 (q := 22) rfl ?_
      refine j_getR (r := 9) fs_X4_48 rfl rfl rfl dX4_startAhead_22 (q := 25) rfl ?_
      refine j_iload_n dX4_startAhead_25 (q := 26) rfl rfl ?_
      refine j_aaldN rfl (by omega) (rf_farm (by omega)) dX4_startAhead_26 (q := 27) rfl ?_
      refine j_getIV fs_X4_52 (tC_farm (by omega)) rfl (hC.farm (by omega) (by decide)) dX4_startAhead_27 (q := 30) rfl ?_
      refine j_iastN rfl (by omega) dX4_startAhead_30 (q := 31) rfl ?_
      refine j_iincN_2_1 dX4_startAhead_31 (q := 34) rfl rfl rfl ?_
      refine j_goto (q := 2) dX4_startAhead_34 (by decide) ?_
      refine ih (i + 1) _ (by omega) (hC.frame (fun c h1 _ _ => up_row (by omega))) (fun j hj => ?_) (fun x hx => (up_row hx).trans (hO x hx))
      by_cases e : j = i
      · subst e; exact up_at
      · rw [up_nk e]; exact hd j (by omega)
theorem ct_X4_startAhead {g : GT} {σ : S_} {t : Nat → Int32} {nf : Nat} (hn : t 5 = nI nf) (h7 : nf ≤ 7) (hC : CW σ 8 t) : CT g 0 M_X4_startAhead [.ref 3] σ (fun r τ => r = .null ∧ (∀ i, i < nf → τ 4 i = t (10 + 6 * i + 4)) ∧ ∀ x, x ≠ 4 → τ x = σ x) := by
  refine ct_of [.ref 3, .null] pn_X4_startAhead rfl (Nat.le_of_ble_eq_true rfl) ?_
  refine j_iconst (v := 0) dX4_startAhead_0 (q := 1) rfl (by decide) ?_
  refine j_istore_n_2_1 dX4_startAhead_1 (q := 2) rfl rfl rfl ?_
  exact sa_loop (σ0 := σ) hn h7 (fun τ h1 h2 => ⟨rfl, h1, h2⟩) nf 0 σ (by omega) hC (fun j hj => absurd hj (by omega)) (fun _ _ => rfl)
theorem ga_loop {g : GT} {t t2 : Nat → Int32} {nf : Nat} {σ0 : S_} {Z : Value → S_ → Prop} (hn : t 5 = nI nf) (h7 : nf ≤ 7) (hT : TOK t 0) (hk : ∀ m, kM m → t2 m = t m) (hZ : ∀ τ : S_, (∀ i, i < nf → τ 4 i = dN t2 i) → (∀ x, x ≠ 4 → x ≠ 26 → τ x = σ0 x) → Z .null τ) : ∀ (k i : Nat) (σ : S_), i + k = nf → CW σ 8 t → (∀ j, j < i → σ 4 j = dN t2 j) → (∀ j, i ≤ j → j < nf → σ 4 j = t2 (10 + 6 * j + 4)) → (∀ x, x ≠ 4 → x ≠ 26 → σ x = σ0 x) → J g 4 M_X4_goAhead Z 2 [.ref 3, .int (t2 0), .int (nI i)] [] σ := by
  intro k
  induction k with
  | zero =>
    intro i σ hik hC hd hd2 hO
    refine j_iload_n dX4_goAhead_2 (q := 3) rfl rfl ?_
    refine j_aload_n dX4_goAhead_3 (q := 4) rfl rfl ?_
    refine j_getR (r := 8) fs_X4_24 rfl rfl rfl dX4_goAhead_4 (q := 7) rfl ?_
    refine j_getIV fs_X4_45 rfl rfl ((hC.at LM_farms).trans hn) dX4_goAhead_7 (q := 10) rfl ?_
    refine j_icmp_geN (by omega) (by omega) dX4_goAhead_10 (t := 60) (by decide) (q := 13) rfl (fun c_10 => ?_) (fun c_10 => ?_)
    · skip
      refine j_vret dX4_goAhead_60 rfl ?_
      obtain rfl : i = nf := by omega
      exact hZ σ hd hO
    · skip
      omega
  | succ k ih =>
    intro i σ hik hC hd hd2 hO
    refine j_iload_n dX4_goAhead_2 (q := 3) rfl rfl ?_
    refine j_aload_n dX4_goAhead_3 (q := 4) rfl rfl ?_
    refine j_getR (r := 8) fs_X4_24 rfl rfl rfl dX4_goAhead_4 (q := 7) rfl ?_
    refine j_getIV fs_X4_45 rfl rfl ((hC.at LM_farms).trans hn) dX4_goAhead_7 (q := 10) rfl ?_
    refine j_icmp_geN (by omega) (by omega) dX4_goAhead_10 (t := 60) (by decide) (q := 13) rfl (fun c_10 => ?_) (fun c_10 => ?_)
    · skip
      omega
    · skip
      refine j_aload_n dX4_goAhead_13 (q := 14) rfl rfl ?_
      refine j_getR (r := 4) fs_X4_9 rfl rfl rfl dX4_goAhead_14 (q := 17) rfl ?_
      refine j_iload_n dX4_goAhead_17 (q := 18) rfl rfl ?_
      refine j_bipush (v := 99) dX4_goAhead_18 (q := 20) rfl (by decide) ?_
      refine j_aload_n dX4_goAhead_20 (q := 21) rfl rfl ?_
      refine j_getR (r := 4) fs_X4_9 rfl rfl rfl dX4_goAhead_21 (q := 24) rfl ?_
      refine j_iload_n dX4_goAhead_24 (q := 25) rfl rfl ?_
      refine j_ialdV rfl (by omega) (hd2 i (Nat.le_refl _) (by omega)) dX4_goAhead_25 (q := 26) rfl ?_
      refine j_aload_n dX4_goAhead_26 (q := 27) rfl rfl ?_
      refine j_getR (r := 8) fs_X4_24 rfl rfl rfl dX4_goAhead_27 (q := 30) rfl ?_
      refine j_aload_n dX4_goAhead_30 (q := 31) rfl rfl ?_
      refine j_getR (r := 8) fs_X4_24 rfl rfl rfl dX4_goAhead_31 (q := 34) rfl ?_
      refine j_getR (r := 9) fs_X4_48 rfl rfl rfl dX4_goAhead_34 (q := 37) rfl ?_
      refine j_iload_n dX4_goAhead_37 (q := 38) rfl rfl ?_
      refine j_aaldN rfl (by omega) (rf_farm (by omega)) dX4_goAhead_38 (q := 39) rfl ?_
      refine j_aload_n dX4_goAhead_39 (q := 40) rfl rfl ?_
      refine j_getR (r := 4) fs_X4_9 rfl rfl rfl dX4_goAhead_40 (q := 43) rfl ?_
      refine j_iload_n dX4_goAhead_43 (q := 44) rfl rfl ?_
      refine j_ialdV rfl (by omega) (hd2 i (Nat.le_refl _) (by omega)) dX4_goAhead_44 (q := 45) rfl ?_
      refine j_iload_n dX4_goAhead_45 (q := 46) rfl rfl ?_
      refine j_callVi3 (M' := M_X6_growthOf) lk_X4_56 mv_X6_growthOf ob_8 (by decide) (Nat.le_of_ble_eq_true rfl) dX4_goAhead_46 (q := 49) rfl (ct_X6_growthOf (tC_farm (by omega)) hT hC.2.2.1) ?_
      intro x1 τ1 hz
      obtain ⟨h1, hτ1⟩ := hz
      cases h1
      rw [hC.farm (n := i) (k := 0) (by omega) (by decide), hC.farm (n := i) (k := 1) (by omega) (by decide), hC.farm (n := i) (k := 3) (by omega) (by decide), ← hk (10 + 6 * i + 0) (by unfold kM; omega), ← hk (10 + 6 * i + 1) (by unfold kM; omega), ← hk (10 + 6 * i + 3) (by unfold kM; omega), growT.row hT (fun m m1 m2 => (hk m (by unfold kM; omega)).symm)]
      refine j_iadd dX4_goAhead_49 (q := 50) rfl ?_
      refine j_mmin lkm_X4_60 ma_min_s ma_i ma_min_c (by decide) (Nat.le_of_ble_eq_true rfl) dX4_goAhead_50 (q := 53) rfl ?_
      refine j_iastN rfl (by omega) dX4_goAhead_53 (q := 54) rfl ?_
      refine j_iincN_3_2 dX4_goAhead_54 (q := 57) rfl rfl rfl ?_
      refine j_goto (q := 2) dX4_goAhead_57 (by decide) ?_
      rw [min99]
      refine ih (i + 1) _ (by omega) (hC.frame (fun c h1 h2 h3 => (up_row (by omega)).trans (hτ1 _ (by omega)))) (fun j hj => ?_) (fun j h1 h2 => ?_) (fun x hx h2 => (up_row hx).trans ((hτ1 x h2).trans (hO x hx h2)))
      · by_cases e : j = i
        · subst e; exact up_at
        · rw [up_nk e, hτ1 4 (by decide)]; exact hd j (by omega)
      · rw [up_nk (by omega), hτ1 4 (by decide)]; exact hd2 j (by omega) h2
theorem ct_X4_goAhead {g : GT} {σ : S_} {h : Int32} {t t2 : Nat → Int32} {nf : Nat} (hn : t 5 = nI nf) (h7 : nf ≤ 7) (hT : TOK t 0) (hC : CW σ 8 t) (hk : ∀ m, kM m → t2 m = t m) (hd : ∀ j, j < nf → σ 4 j = t2 (10 + 6 * j + 4)) (hh : h = t2 0) : CT g 4 M_X4_goAhead [.ref 3, .int h] σ (fun r τ => r = .null ∧ (∀ i, i < nf → τ 4 i = dN t2 i) ∧ ∀ x, x ≠ 4 → x ≠ 26 → τ x = σ x) := by
  refine ct_of [.ref 3, .int h, .null] pn_X4_goAhead rfl (Nat.le_of_ble_eq_true rfl) ?_
  refine j_iconst (v := 0) dX4_goAhead_0 (q := 1) rfl (by decide) ?_
  refine j_istore_n_3_2 dX4_goAhead_1 (q := 2) rfl rfl rfl ?_
  subst hh
  exact ga_loop (σ0 := σ) hn h7 hT hk (fun τ h1 h2 => ⟨rfl, h1, h2⟩) nf 0 σ (by omega) hC (fun j hj => absurd hj (by omega)) (fun j _ h => hd j h) (fun _ _ _ => rfl)
def TH (σ σ0 : S_) (t : Nat → Int32) (nf k : Nat) : Prop := (∀ j, j < nf → σ 4 j = hoursN t nf k (10 + 6 * j + 4)) ∧ ∀ x, x ≠ 4 → x ≠ 26 → σ x = σ0 x
theorem TH.cw {σ σ0 : S_} {t : Nat → Int32} {nf k : Nat} (h : TH σ σ0 t nf k) (hC : CW σ0 8 t) : CW σ 8 t := hC.frame (fun c h1 h2 h3 => h.2 _ (by omega) (by omega))
theorem TH.next {σ τ σ0 : S_} {t : Nat → Int32} {nf k : Nat} (hB : BD t) (h7 : nf ≤ 7) (h : TH σ σ0 t nf k) (h1 : ∀ i, i < nf → τ 4 i = dN (hoursN t nf k) i) (h2 : ∀ x, x ≠ 4 → x ≠ 26 → τ x = σ x) : TH τ σ0 t nf (k + 1) :=
  ⟨fun j hj => (h1 j hj).trans (hourN_dry (BD_hoursN hB h7 k).t0 h7 hj).symm, fun x a b => (h2 x a b).trans (h.2 x a b)⟩
theorem dt_loop {g : GT} {t : Nat → Int32} {nf : Nat} {σ0 : S_} (hB : BD t) (hn : t 5 = nI nf) (h7 : nf ≤ 7) (hC : CW σ0 8 t) {f n : Nat} (hf : f < nf) (h72 : n ≤ 72) : ∀ (k i : Nat) (σ : S_), i + k = n → TH σ σ0 t nf i → J g 5 M_X4_dryThen (fun r τ => r = .int (hoursN t nf n (10 + 6 * f + 4)) ∧ ∀ x, x ≠ 4 → x ≠ 26 → τ x = σ0 x) 6 [.ref 3, .int (nI f), .int (nI n), .int (nI i)] [] σ := by
  intro k
  induction k with
  | zero =>
    intro i σ hik hH
    refine j_iload_n dX4_dryThen_6 (q := 7) rfl rfl ?_
    refine j_iload_n dX4_dryThen_7 (q := 8) rfl rfl ?_
    refine j_icmp_geN (by omega) (by omega) dX4_dryThen_8 (t := 30) (by decide) (q := 11) rfl (fun c_8 => ?_) (fun c_8 => ?_)
    · skip
      refine j_iload_n dX4_dryThen_30 (q := 31) rfl rfl ?_
      refine j_iconst (v := 0) dX4_dryThen_31 (q := 32) rfl (by decide) ?_
      refine j_bipush (v := 6) dX4_dryThen_32 (q := 34) rfl (by decide) ?_
      refine j_callSi3E (M' := M_X7_within) lk_X4_41 ms_X7_within (by decide) (Nat.le_of_ble_eq_true rfl) dX4_dryThen_34 (q := 37) rfl (ct_X7_within) ?_
      refine j_ifeqB dX4_dryThen_37 (t := 49) (by decide) (q := 40) rfl (fun c_37 => ?_) (fun c_37 => ?_)
      · skip
        refine j_aload_n dX4_dryThen_40 (q := 41) rfl rfl ?_
        refine j_getR (r := 4) fs_X4_9 rfl rfl rfl dX4_dryThen_41 (q := 44) rfl ?_
        refine j_iload_n dX4_dryThen_44 (q := 45) rfl rfl ?_
        refine j_ialdN rfl (by omega) dX4_dryThen_45 (q := 46) rfl ?_
        refine j_goto (q := 50) dX4_dryThen_46 (by decide) ?_
        refine j_ireti dX4_dryThen_50 rfl ?_
        obtain rfl : i = n := by omega
        exact ⟨congrArg Value.int (hH.1 f hf), hH.2⟩
      · skip
        exact absurd (inK (b := 6) (by omega) (by decide)) c_37
    · skip
      omega
  | succ k ih =>
    intro i σ hik hH
    refine j_iload_n dX4_dryThen_6 (q := 7) rfl rfl ?_
    refine j_iload_n dX4_dryThen_7 (q := 8) rfl rfl ?_
    refine j_icmp_geN (by omega) (by omega) dX4_dryThen_8 (t := 30) (by decide) (q := 11) rfl (fun c_8 => ?_) (fun c_8 => ?_)
    · skip
      omega
    · skip
      refine j_aload_n dX4_dryThen_11 (q := 12) rfl rfl ?_
      refine j_aload_n dX4_dryThen_12 (q := 13) rfl rfl ?_
      refine j_getR (r := 8) fs_X4_24 rfl rfl rfl dX4_dryThen_13 (q := 16) rfl ?_
      refine j_getIV fs_X4_31 rfl rfl ((hH.cw hC).at LM_hour) dX4_dryThen_16 (q := 19) rfl ?_
      refine j_iload_n dX4_dryThen_19 (q := 20) rfl rfl ?_
      refine j_iadd dX4_dryThen_20 (q := 21) rfl ?_
      refine j_callVv1 (M' := M_X4_goAhead) lk_X4_37 mv_X4_goAhead ob_3 (by decide) (Nat.le_of_ble_eq_true rfl) dX4_dryThen_21 (q := 24) rfl (ct_X4_goAhead hn h7 hB.t0 (hH.cw hC) (fun m hm => hoursN_kM h7 hm i) hH.1 (hoursN_0 h7 i).symm) ?_
      intro τ1 hz
      obtain ⟨-, g1, g2⟩ := hz
      have hH1 := hH.next hB h7 g1 g2
      refine j_iincN_4_3 dX4_dryThen_24 (q := 27) rfl rfl rfl ?_
      refine j_goto (q := 6) dX4_dryThen_27 (by decide) ?_
      exact ih (i + 1) τ1 (by omega) hH1
theorem ct_X4_dryThen {g : GT} {σ : S_} {t : Nat → Int32} {nf : Nat} (hB : BD t) (hn : t 5 = nI nf) (h7 : nf ≤ 7) (hC : CW σ 8 t) {f n : Nat} (hf : f < nf) (h72 : n ≤ 72) : CT g 5 M_X4_dryThen [.ref 3, .int (nI f), .int (nI n)] σ (fun r τ => r = .int (hoursN t nf n (10 + 6 * f + 4)) ∧ ∀ x, x ≠ 4 → x ≠ 26 → τ x = σ x) := by
  refine ct_of [.ref 3, .int (nI f), .int (nI n), .null] pn_X4_dryThen rfl (Nat.le_of_ble_eq_true rfl) ?_
  refine j_aload_n dX4_dryThen_0 (q := 1) rfl rfl ?_
  refine j_callVv0 (M' := M_X4_startAhead) lk_X4_28 mv_X4_startAhead ob_3 (by decide) (Nat.le_of_ble_eq_true rfl) dX4_dryThen_1 (q := 4) rfl (ct_X4_startAhead hn h7 hC) ?_
  intro τ0 hz
  obtain ⟨-, g1, g2⟩ := hz
  have hH : TH τ0 σ t nf 0 := ⟨g1, fun x a _ => g2 x a⟩
  refine j_iconst (v := 0) dX4_dryThen_4 (q := 5) rfl (by decide) ?_
  refine j_istore_n_4_3 dX4_dryThen_5 (q := 6) rfl rfl rfl ?_
  exact dt_loop (σ0 := σ) hB hn h7 hC hf h72 n 0 τ0 (by omega) hH
theorem ct_X7_then_no {g : GT} {σ : S_} {f n : Int32} (h : ¬ ((0 ≤ f ∧ f ≤ σ 8 1 - 1) ∧ (0 ≤ n ∧ n ≤ 72))) : CT g 2 M_X7_then [.ref 0, .int f, .int n] σ (EQ (.int (-1000000001)) (rfz σ 1)) := by
  refine ct_of [.ref 0, .int f, .int n] pn_X7_then rfl (Nat.le_of_ble_eq_true rfl) ?_
  refine j_aload_n dX7_then_0 (q := 1) rfl rfl ?_
  refine j_iload_n dX7_then_1 (q := 2) rfl rfl ?_
  refine j_callVi1E (M' := M_X7_isFarm) lk_X7_79 mv_X7_isFarm ob_0 (by decide) (Nat.le_of_ble_eq_true rfl) dX7_then_2 (q := 5) rfl (ct_X7_isFarm) ?_
  refine j_ifeqB dX7_then_5 (t := 18) (by decide) (q := 8) rfl (fun c_5 => ?_) (fun c_5 => ?_)
  · skip
    refine j_iload_n dX7_then_8 (q := 9) rfl rfl ?_
    refine j_iconst (v := 0) dX7_then_9 (q := 10) rfl (by decide) ?_
    refine j_bipush (v := 72) dX7_then_10 (q := 12) rfl (by decide) ?_
    refine j_callSi3E (M' := M_X7_within) lk_X7_57 ms_X7_within (by decide) (Nat.le_of_ble_eq_true rfl) dX7_then_12 (q := 15) rfl (ct_X7_within) ?_
    refine j_ifneB dX7_then_15 (t := 24) (by decide) (q := 18) rfl (fun c_15 => ?_) (fun c_15 => ?_)
    · skip
      exact absurd ⟨c_5, c_15⟩ h
    · skip
      refine j_aload_n dX7_then_18 (q := 19) rfl rfl ?_
      refine j_iconst (v := 1) dX7_then_19 (q := 20) rfl (by decide) ?_
      refine j_callVi1E (M' := M_X7_refuse) lk_X7_61 mv_X7_refuse ob_0 (by decide) (Nat.le_of_ble_eq_true rfl) dX7_then_20 (q := 23) rfl (ct_ref1) ?_
      refine j_ireti dX7_then_23 rfl ?_
      exact ⟨rfl, rfl⟩
  · skip
    refine j_aload_n dX7_then_18 (q := 19) rfl rfl ?_
    refine j_iconst (v := 1) dX7_then_19 (q := 20) rfl (by decide) ?_
    refine j_callVi1E (M' := M_X7_refuse) lk_X7_61 mv_X7_refuse ob_0 (by decide) (Nat.le_of_ble_eq_true rfl) dX7_then_20 (q := 23) rfl (ct_ref1) ?_
    refine j_ireti dX7_then_23 rfl ?_
    exact ⟨rfl, rfl⟩
theorem ct_X8_then_no {g : GT} {σ : S_} {f n : Int32} (h : ¬ ((0 ≤ f ∧ f ≤ σ 71 5 - 1) ∧ (0 ≤ n ∧ n ≤ 72))) : CT g 2 M_X8_then [.ref 70, .int f, .int n] σ (EQ (.int (-1000000001)) (rfm σ 1)) := by
  refine ct_of [.ref 70, .int f, .int n, .null] pn_X8_then rfl (Nat.le_of_ble_eq_true rfl) ?_
  refine j_aload_n dX8_then_0 (q := 1) rfl rfl ?_
  refine j_iload_n dX8_then_1 (q := 2) rfl rfl ?_
  refine j_callVi1E (M' := M_X8_isFarm) lk_X8_166 mv_X8_isFarm ob_70 (by decide) (Nat.le_of_ble_eq_true rfl) dX8_then_2 (q := 5) rfl (ct_X8_isFarm) ?_
  refine j_ifeqB dX8_then_5 (t := 18) (by decide) (q := 8) rfl (fun c_5 => ?_) (fun c_5 => ?_)
  · skip
    refine j_iload_n dX8_then_8 (q := 9) rfl rfl ?_
    refine j_iconst (v := 0) dX8_then_9 (q := 10) rfl (by decide) ?_
    refine j_bipush (v := 72) dX8_then_10 (q := 12) rfl (by decide) ?_
    refine j_callSi3E (M' := M_X8_in) lk_X8_59 ms_X8_in (by decide) (Nat.le_of_ble_eq_true rfl) dX8_then_12 (q := 15) rfl (ct_X8_in) ?_
    refine j_ifneB dX8_then_15 (t := 24) (by decide) (q := 18) rfl (fun c_15 => ?_) (fun c_15 => ?_)
    · skip
      exact absurd ⟨c_5, c_15⟩ h
    · skip
      refine j_aload_n dX8_then_18 (q := 19) rfl rfl ?_
      refine j_iconst (v := 1) dX8_then_19 (q := 20) rfl (by decide) ?_
      refine j_callVi1E (M' := M_X8_error) lk_X8_63 mv_X8_error ob_70 (by decide) (Nat.le_of_ble_eq_true rfl) dX8_then_20 (q := 23) rfl (ct_err1) ?_
      refine j_ireti dX8_then_23 rfl ?_
      exact ⟨rfl, rfl⟩
  · skip
    refine j_aload_n dX8_then_18 (q := 19) rfl rfl ?_
    refine j_iconst (v := 1) dX8_then_19 (q := 20) rfl (by decide) ?_
    refine j_callVi1E (M' := M_X8_error) lk_X8_63 mv_X8_error ob_70 (by decide) (Nat.le_of_ble_eq_true rfl) dX8_then_20 (q := 23) rfl (ct_err1) ?_
    refine j_ireti dX8_then_23 rfl ?_
    exact ⟨rfl, rfl⟩
theorem ct_X7_then_ok {g : GT} {σ : S_} {t : Nat → Int32} {nf : Nat} (hB : BD t) (hn : t 5 = nI nf) (h7 : nf ≤ 7) (hC : CW σ 8 t) {f n : Nat} (hf : f < nf) (h72 : n ≤ 72) : CT g 6 M_X7_then [.ref 0, .int (nI f), .int (nI n)] σ (fun r τ => r = .int (hoursN t nf n (10 + 6 * f + 4)) ∧ ∀ x, x ≠ 4 → x ≠ 26 → τ x = σ x) := by
  refine ct_of [.ref 0, .int (nI f), .int (nI n)] pn_X7_then rfl (Nat.le_of_ble_eq_true rfl) ?_
  refine j_aload_n dX7_then_0 (q := 1) rfl rfl ?_
  refine j_iload_n dX7_then_1 (q := 2) rfl rfl ?_
  refine j_callVi1E (M' := M_X7_isFarm) lk_X7_79 mv_X7_isFarm ob_0 (by decide) (Nat.le_of_ble_eq_true rfl) dX7_then_2 (q := 5) rfl (ct_X7_isFarm) ?_
  refine j_ifeqB dX7_then_5 (t := 18) (by decide) (q := 8) rfl (fun c_5 => ?_) (fun c_5 => ?_)
  · skip
    refine j_iload_n dX7_then_8 (q := 9) rfl rfl ?_
    refine j_iconst (v := 0) dX7_then_9 (q := 10) rfl (by decide) ?_
    refine j_bipush (v := 72) dX7_then_10 (q := 12) rfl (by decide) ?_
    refine j_callSi3E (M' := M_X7_within) lk_X7_57 ms_X7_within (by decide) (Nat.le_of_ble_eq_true rfl) dX7_then_12 (q := 15) rfl (ct_X7_within) ?_
    refine j_ifneB dX7_then_15 (t := 24) (by decide) (q := 18) rfl (fun c_15 => ?_) (fun c_15 => ?_)
    · skip
      refine j_aload_n dX7_then_24 (q := 25) rfl rfl ?_
      refine j_getR (r := 3) fs_X7_24 rfl rfl rfl dX7_then_25 (q := 28) rfl ?_
      refine j_iload_n dX7_then_28 (q := 29) rfl rfl ?_
      refine j_iload_n dX7_then_29 (q := 30) rfl rfl ?_
      refine j_callVi2 (M' := M_X4_dryThen) lk_X7_203 mv_X4_dryThen ob_3 (by decide) (Nat.le_of_ble_eq_true rfl) dX7_then_30 (q := 33) rfl (ct_X4_dryThen hB hn h7 hC hf h72) ?_
      intro x1 τ1 hz
      refine j_ireti dX7_then_33 rfl ?_
      exact hz
    · skip
      exact absurd (inK (b := 72) (by omega) (by decide)) c_15
  · skip
    exact absurd (inF hf h7 ((hC.at LM_farms).trans hn)) c_5
theorem ld_loop {g : GT} {σ0 : S_} {Z : Value → S_ → Prop} (hZ : ∀ τ : S_, (∀ i, i < 60 → τ 73 i = σ0 71 i) → (∀ i, 60 ≤ i → τ 73 i = σ0 73 i) → (∀ x, x ≠ 73 → τ x = σ0 x) → Z .null τ) : ∀ (k i : Nat) (σ : S_), i + k = 60 → (∀ j, j < i → σ 73 j = σ0 71 j) → (∀ j, 60 ≤ j → σ 73 j = σ0 73 j) → (∀ x, x ≠ 73 → σ x = σ0 x) → J g 0 M_X8_layDown Z 2 [.ref 70, .int (nI i)] [] σ := by
  intro k
  induction k with
  | zero =>
    intro i σ hik h1 h2 h3
    refine j_iload_n dX8_layDown_2 (q := 3) rfl rfl ?_
    refine j_bipush (v := 60) dX8_layDown_3 (q := 5) rfl (by decide) ?_
    refine j_icmp_geN (b := 60) (by omega) (by omega) dX8_layDown_5 (t := 26) (by decide) (q := 8) rfl (fun c_5 => ?_) (fun c_5 => ?_)
    · skip
      refine j_vret dX8_layDown_26 rfl ?_
      obtain rfl : i = 60 := by omega
      exact hZ σ h1 h2 h3
    · skip
      omega
  | succ k ih =>
    intro i σ hik h1 h2 h3
    refine j_iload_n dX8_layDown_2 (q := 3) rfl rfl ?_
    refine j_bipush (v := 60) dX8_layDown_3 (q := 5) rfl (by decide) ?_
    refine j_icmp_geN (b := 60) (by omega) (by omega) dX8_layDown_5 (t := 26) (by decide) (q := 8) rfl (fun c_5 => ?_) (fun c_5 => ?_)
    · skip
      omega
    · skip
      refine j_aload_n dX8_layDown_8 (q := 9) rfl rfl ?_
      refine j_getR (r := 73) fs_X8_16 rfl rfl rfl dX8_layDown_9 (q := 12) rfl ?_
      refine j_iload_n dX8_layDown_12 (q := 13) rfl rfl ?_
      refine j_aload_n dX8_layDown_13 (q := 14) rfl rfl ?_
      refine j_getR (r := 71) fs_X8_7 rfl rfl rfl dX8_layDown_14 (q := 17) rfl ?_
      refine j_iload_n dX8_layDown_17 (q := 18) rfl rfl ?_
      refine j_ialdN rfl (by omega) dX8_layDown_18 (q := 19) rfl ?_
      refine j_iastN rfl (by omega) dX8_layDown_19 (q := 20) rfl ?_
      refine j_iincN_2_1 dX8_layDown_20 (q := 23) rfl rfl rfl ?_
      refine j_goto (q := 2) dX8_layDown_23 (by decide) ?_
      refine ih (i + 1) _ (by omega) (fun j hj => ?_) (fun j hj => (up_nk (by omega)).trans (h2 j hj)) (fun x hx => (up_row hx).trans (h3 x hx))
      by_cases e : j = i
      · subst e; rw [up_at, h3 71 (by decide)]
      · rw [up_nk e]; exact h1 j (by omega)
theorem ct_X8_layDown {g : GT} {σ : S_}  : CT g 0 M_X8_layDown [.ref 70] σ (fun r τ => r = .null ∧ (∀ i, i < 60 → τ 73 i = σ 71 i) ∧ (∀ i, 60 ≤ i → τ 73 i = σ 73 i) ∧ ∀ x, x ≠ 73 → τ x = σ x) := by
  refine ct_of [.ref 70, .null] pn_X8_layDown rfl (Nat.le_of_ble_eq_true rfl) ?_
  refine j_iconst (v := 0) dX8_layDown_0 (q := 1) rfl (by decide) ?_
  refine j_istore_n_2_1 dX8_layDown_1 (q := 2) rfl rfl rfl ?_
  exact ld_loop (σ0 := σ) (fun τ a b c => ⟨rfl, a, b, c⟩) 60 0 σ rfl (fun j hj => absurd hj (by omega)) (fun _ _ => rfl) (fun _ _ => rfl)
theorem lb_loop {g : GT} {σ0 : S_} {Z : Value → S_ → Prop} (hZ : ∀ τ : S_, (∀ i, i < 60 → τ 71 i = σ0 73 i) → (∀ i, 60 ≤ i → τ 71 i = σ0 71 i) → (∀ x, x ≠ 71 → τ x = σ0 x) → Z .null τ) : ∀ (k i : Nat) (σ : S_), i + k = 60 → (∀ j, j < i → σ 71 j = σ0 73 j) → (∀ j, 60 ≤ j → σ 71 j = σ0 71 j) → (∀ x, x ≠ 71 → σ x = σ0 x) → J g 0 M_X8_layBack Z 2 [.ref 70, .int (nI i)] [] σ := by
  intro k
  induction k with
  | zero =>
    intro i σ hik h1 h2 h3
    refine j_iload_n dX8_layBack_2 (q := 3) rfl rfl ?_
    refine j_bipush (v := 60) dX8_layBack_3 (q := 5) rfl (by decide) ?_
    refine j_icmp_geN (b := 60) (by omega) (by omega) dX8_layBack_5 (t := 26) (by decide) (q := 8) rfl (fun c_5 => ?_) (fun c_5 => ?_)
    · skip
      refine j_vret dX8_layBack_26 rfl ?_
      obtain rfl : i = 60 := by omega
      exact hZ σ h1 h2 h3
    · skip
      omega
  | succ k ih =>
    intro i σ hik h1 h2 h3
    refine j_iload_n dX8_layBack_2 (q := 3) rfl rfl ?_
    refine j_bipush (v := 60) dX8_layBack_3 (q := 5) rfl (by decide) ?_
    refine j_icmp_geN (b := 60) (by omega) (by omega) dX8_layBack_5 (t := 26) (by decide) (q := 8) rfl (fun c_5 => ?_) (fun c_5 => ?_)
    · skip
      omega
    · skip
      refine j_aload_n dX8_layBack_8 (q := 9) rfl rfl ?_
      refine j_getR (r := 71) fs_X8_7 rfl rfl rfl dX8_layBack_9 (q := 12) rfl ?_
      refine j_iload_n dX8_layBack_12 (q := 13) rfl rfl ?_
      refine j_aload_n dX8_layBack_13 (q := 14) rfl rfl ?_
      refine j_getR (r := 73) fs_X8_16 rfl rfl rfl dX8_layBack_14 (q := 17) rfl ?_
      refine j_iload_n dX8_layBack_17 (q := 18) rfl rfl ?_
      refine j_ialdN rfl (by omega) dX8_layBack_18 (q := 19) rfl ?_
      refine j_iastN rfl (by omega) dX8_layBack_19 (q := 20) rfl ?_
      refine j_iincN_2_1 dX8_layBack_20 (q := 23) rfl rfl rfl ?_
      refine j_goto (q := 2) dX8_layBack_23 (by decide) ?_
      refine ih (i + 1) _ (by omega) (fun j hj => ?_) (fun j hj => (up_nk (by omega)).trans (h2 j hj)) (fun x hx => (up_row hx).trans (h3 x hx))
      by_cases e : j = i
      · subst e; rw [up_at, h3 73 (by decide)]
      · rw [up_nk e]; exact h1 j (by omega)
theorem ct_X8_layBack {g : GT} {σ : S_}  : CT g 0 M_X8_layBack [.ref 70] σ (fun r τ => r = .null ∧ (∀ i, i < 60 → τ 71 i = σ 73 i) ∧ (∀ i, 60 ≤ i → τ 71 i = σ 71 i) ∧ ∀ x, x ≠ 71 → τ x = σ x) := by
  refine ct_of [.ref 70, .null] pn_X8_layBack rfl (Nat.le_of_ble_eq_true rfl) ?_
  refine j_iconst (v := 0) dX8_layBack_0 (q := 1) rfl (by decide) ?_
  refine j_istore_n_2_1 dX8_layBack_1 (q := 2) rfl rfl rfl ?_
  exact lb_loop (σ0 := σ) (fun τ a b c => ⟨rfl, a, b, c⟩) 60 0 σ rfl (fun j hj => absurd hj (by omega)) (fun _ _ => rfl) (fun _ _ => rfl)
/-- the reference's thought: k hours on, the row laid aside -/
def TM (σ σ0 : S_) (t : Nat → Int32) (nf k : Nat) : Prop := σ 71 = hoursN t nf k ∧ (∀ j, j < 60 → σ 73 j = t j) ∧ ∀ x, x ≠ 71 → x ≠ 73 → x ≠ 76 → x ≠ 77 → σ x = σ0 x
theorem TM.next {σ τ σ0 : S_} {t : Nat → Int32} {nf k : Nat} (h : TM σ σ0 t nf k) (h1 : τ 71 = hourN (σ 71) nf) (h2 : outM τ σ) : TM τ σ0 t nf (k + 1) :=
  ⟨by rw [h1, h.1]; rfl, fun j hj => by rw [h2 73 (by decide) (by decide) (by decide)]; exact h.2.1 j hj, fun x a b c d => (h2 x a c d).trans (h.2.2 x a b c d)⟩
theorem TM.back {σ τ σ0 : S_} {t : Nat → Int32} {nf k : Nat} (h7 : nf ≤ 7) (h : TM σ σ0 t nf k) (hs : σ0 71 = t) (a : ∀ i, i < 60 → τ 71 i = σ 73 i) (b : ∀ i, 60 ≤ i → τ 71 i = σ 71 i) (c : ∀ x, x ≠ 71 → τ x = σ x) : ∀ x, x ≠ 73 → x ≠ 76 → x ≠ 77 → τ x = σ0 x := by
  intro x h1 h2 h3
  by_cases e : x = 71
  · subst e
    rw [hs]
    funext i
    by_cases hi : i < 60
    · rw [a i hi, h.2.1 i hi]
    · rw [b i (by omega), h.1, hoursN_keep h7 (by omega)]
  · rw [c x e, h.2.2 x e h1 h2 h3]
theorem TM.n5 {σ σ0 : S_} {t : Nat → Int32} {nf k : Nat} (h7 : nf ≤ 7) (h : TM σ σ0 t nf k) (hn : t 5 = nI nf) : σ 71 5 = nI nf := by rw [h.1, hoursN_keep h7 (by omega)]; exact hn
theorem tm_loop {g : GT} {t : Nat → Int32} {nf : Nat} {σ0 : S_} (hB : BD t) (hn : t 5 = nI nf) (h7 : nf ≤ 7) (hs : σ0 71 = t) {f n : Nat} (hf : f < nf) (h72 : n ≤ 72) : ∀ (k i : Nat) (σ : S_), i + k = n → TM σ σ0 t nf i → J g 5 M_X8_then (fun r τ => r = .int (hoursN t nf n (10 + 6 * f + 4)) ∧ ∀ x, x ≠ 73 → x ≠ 76 → x ≠ 77 → τ x = σ0 x) 30 [.ref 70, .int (nI f), .int (nI n), .int (nI i)] [] σ := by
  intro k
  induction k with
  | zero =>
    intro i σ hik hM
    refine j_iload_n dX8_then_30 (q := 31) rfl rfl ?_
    refine j_iload_n dX8_then_31 (q := 32) rfl rfl ?_
    refine j_icmp_geN (by omega) (by omega) dX8_then_32 (t := 45) (by decide) (q := 35) rfl (fun c_32 => ?_) (fun c_32 => ?_)
    · skip
      refine j_aload_n dX8_then_45 (q := 46) rfl rfl ?_
      refine j_iload_n dX8_then_46 (q := 47) rfl rfl ?_
      refine j_iconst (v := 4) dX8_then_47 (q := 48) rfl (by decide) ?_
      refine j_callVi2E (M' := M_X8_its) lk_X8_123 mv_X8_its ob_70 (by decide) (Nat.le_of_ble_eq_true rfl) dX8_then_48 (q := 51) rfl (ct_X8_its (k := 4) (by omega) (by decide)) ?_
      refine j_istore_n_4_3 dX8_then_51 (q := 52) rfl rfl rfl ?_
      refine j_aload_n dX8_then_52 (q := 53) rfl rfl ?_
      refine j_callVv0 (M' := M_X8_layBack) lk_X8_199 mv_X8_layBack ob_70 (by decide) (Nat.le_of_ble_eq_true rfl) dX8_then_53 (q := 56) rfl (ct_X8_layBack) ?_
      intro τ2 hz
      obtain ⟨-, b1, b2, b3⟩ := hz
      refine j_iload_n dX8_then_56 (q := 57) rfl rfl ?_
      refine j_ireti dX8_then_57 rfl ?_
      obtain rfl : i = n := by omega
      exact ⟨by rw [hM.1], hM.back h7 hs b1 b2 b3⟩
    · skip
      omega
  | succ k ih =>
    intro i σ hik hM
    refine j_iload_n dX8_then_30 (q := 31) rfl rfl ?_
    refine j_iload_n dX8_then_31 (q := 32) rfl rfl ?_
    refine j_icmp_geN (by omega) (by omega) dX8_then_32 (t := 45) (by decide) (q := 35) rfl (fun c_32 => ?_) (fun c_32 => ?_)
    · skip
      omega
    · skip
      refine j_aload_n dX8_then_35 (q := 36) rfl rfl ?_
      refine j_callVv0 (M' := M_X8_anHour) lk_X8_187 mv_X8_anHour ob_70 (by decide) (Nat.le_of_ble_eq_true rfl) dX8_then_36 (q := 39) rfl (ct_X8_anHour (by rw [hM.1]; exact BD_hoursN hB h7 i) (hM.n5 h7 hn) h7) ?_
      intro τ1 hz
      obtain ⟨-, g1, g2⟩ := hz
      have hM1 := hM.next g1 g2
      refine j_iincN_4_3 dX8_then_39 (q := 42) rfl rfl rfl ?_
      refine j_goto (q := 30) dX8_then_42 (by decide) ?_
      exact ih (i + 1) τ1 (by omega) hM1
theorem ct_X8_then_ok {g : GT} {σ : S_} {t : Nat → Int32} {nf : Nat} (hB : BD t) (hn : t 5 = nI nf) (h7 : nf ≤ 7) (hs : σ 71 = t) {f n : Nat} (hf : f < nf) (h72 : n ≤ 72) : CT g 5 M_X8_then [.ref 70, .int (nI f), .int (nI n)] σ (fun r τ => r = .int (hoursN t nf n (10 + 6 * f + 4)) ∧ ∀ x, x ≠ 73 → x ≠ 76 → x ≠ 77 → τ x = σ x) := by
  refine ct_of [.ref 70, .int (nI f), .int (nI n), .null] pn_X8_then rfl (Nat.le_of_ble_eq_true rfl) ?_
  refine j_aload_n dX8_then_0 (q := 1) rfl rfl ?_
  refine j_iload_n dX8_then_1 (q := 2) rfl rfl ?_
  refine j_callVi1E (M' := M_X8_isFarm) lk_X8_166 mv_X8_isFarm ob_70 (by decide) (Nat.le_of_ble_eq_true rfl) dX8_then_2 (q := 5) rfl (ct_X8_isFarm) ?_
  refine j_ifeqB dX8_then_5 (t := 18) (by decide) (q := 8) rfl (fun c_5 => ?_) (fun c_5 => ?_)
  · skip
    refine j_iload_n dX8_then_8 (q := 9) rfl rfl ?_
    refine j_iconst (v := 0) dX8_then_9 (q := 10) rfl (by decide) ?_
    refine j_bipush (v := 72) dX8_then_10 (q := 12) rfl (by decide) ?_
    refine j_callSi3E (M' := M_X8_in) lk_X8_59 ms_X8_in (by decide) (Nat.le_of_ble_eq_true rfl) dX8_then_12 (q := 15) rfl (ct_X8_in) ?_
    refine j_ifneB dX8_then_15 (t := 24) (by decide) (q := 18) rfl (fun c_15 => ?_) (fun c_15 => ?_)
    · skip
      refine j_aload_n dX8_then_24 (q := 25) rfl rfl ?_
      refine j_callVv0 (M' := M_X8_layDown) lk_X8_196 mv_X8_layDown ob_70 (by decide) (Nat.le_of_ble_eq_true rfl) dX8_then_25 (q := 28) rfl (ct_X8_layDown) ?_
      intro τ0 hz
      obtain ⟨-, g1, g2, g3⟩ := hz
      have hM : TM τ0 σ t nf 0 := ⟨by rw [g3 71 (by decide)]; exact hs, fun j hj => by rw [g1 j hj, hs], fun x a b _ _ => g3 x b⟩
      refine j_iconst (v := 0) dX8_then_28 (q := 29) rfl (by decide) ?_
      refine j_istore_n_4_3 dX8_then_29 (q := 30) rfl rfl rfl ?_
      exact tm_loop (σ0 := σ) hB hn h7 hs hf h72 n 0 τ0 (by omega) hM
    · skip
      exact absurd (inK (b := 72) (by omega) (by decide)) c_15
  · skip
    exact absurd (inF hf h7 ((congrFun hs 5).trans hn)) c_5
