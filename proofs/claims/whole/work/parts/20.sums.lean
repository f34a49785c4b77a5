theorem CW.farm {σ : S_} {t : Nat → Int32} (h : CW σ 8 t) {n k : Nat} (hn : n < 7) (hk : k < 6) : σ (16 + n) k = t (10 + 6 * n + k) := by
  have := h.at (LM_farm n hn k hk)
  rw [show 8 + (8 + n) = 16 + n by omega] at this
  exact this
theorem CWupF {σ : S_} {t : Nat → Int32} (h : CW σ 8 t) {n k : Nat} (hn : n < 7) (hk : k < 6) (v : Int32) : CW (up σ (16 + n) k v) 8 (upd t (10 + 6 * n + k) v) := by
  have := CW.up h (LM_farm n hn k hk) v
  rw [show 8 + (8 + n, k, 10 + 6 * n + k).1 = 16 + n from by show 8 + (8 + n) = 16 + n; omega] at this
  exact this
theorem and1 {x : Int32} : x &&& 1 = 0 ∨ x &&& 1 = 1 := by
  obtain ⟨j, hj, e⟩ := pk_andE x (m := 1) 1 rfl
  rcases (show j = 0 ∨ j = 1 by omega) with rfl | rfl
  · exact Or.inl e
  · exact Or.inr e
/-- farm n is in the set -/
abbrev inS (set : Int32) (n : Nat) : Prop := (set >>> (nI n &&& 31)) &&& 1 = 1
theorem inS_no {set : Int32} {n : Nat} (h : (set >>> (nI n &&& 31)) &&& 1 = 0) : ¬ inS set n := fun q => by rw [inS, h] at q; exact absurd q (by decide)
theorem inS_yes {set : Int32} {n : Nat} (h : ¬ (set >>> (nI n &&& 31)) &&& 1 = 0) : inS set n := and1.resolve_left h
def dryS (t : Nat → Int32) (set : Int32) : Nat → Int32
  | 0 => 0
  | n + 1 => if inS set n then dryS t set n + t (10 + 6 * n + 4) else dryS t set n
def payOfT (t : Nat → Int32) (n : Nat) : Int32 := payT t (paysF (t (10 + 6 * n)) (t (10 + 6 * n + 3)) (t (10 + 6 * n + 4) + t (10 + 6 * n + 2))) (t (10 + 6 * n + 4)) (t (10 + 6 * n + 2))
def payS (t : Nat → Int32) (set : Int32) : Nat → Int32
  | 0 => 0
  | n + 1 => if inS set n then payS t set n + payOfT t n else payS t set n
def dryNew (t : Nat → Int32) (n : Nat) : Int32 := t (10 + 6 * n + 4) + growT t (growF (t (10 + 6 * n)) (t (10 + 6 * n + 1)) (t (10 + 6 * n + 3)) (t 0)) (t (10 + 6 * n + 4)) (remF (t 0) 24)
def fstep (t : Nat → Int32) (n : Nat) : Nat → Int32 := if dryNew t n ≤ 99 then upd t (10 + 6 * n + 4) (dryNew t n) else upd (upd t 1 (heldF (t 1 + 1) 0 99999)) (10 + 6 * n + 4) 99
def hfarms (t : Nat → Int32) : Nat → Nat → Int32
  | 0 => t
  | n + 1 => fstep (hfarms t n) n
def wat (t : Nat → Int32) : Nat → Nat → Int32
  | 0 => t
  | p + 1 => upd (wat t p) (7 + p) (heldF (wat t p (7 + p) + nI p + 1) 0 999)
def hourN (t : Nat → Int32) (nf : Nat) : Nat → Int32 := upd (wat (hfarms t nf) 3) 0 (wat (hfarms t nf) 3 0 + 1)
theorem ds_loop {g : GT} {σ : S_} {t : Nat → Int32} {nf : Nat} {set : Int32} (hC : CW σ 8 t) (hn : t 5 = nI nf) (h7 : nf ≤ 7) : ∀ (k i : Nat) (sum : Int32) (Z : Value → S_ → Prop), i + k = nf → sum = dryS t set i → Z (.int (dryS t set nf)) σ → J g 0 M_X6_dryOfSet Z 4 [.ref 8, .int set, .int sum, .int (nI i)] [] σ := by
  intro k
  induction k with
  | zero =>
    intro i sum Z hik hs hZ
    refine j_iload_n dX6_dryOfSet_4 (q := 5) rfl rfl ?_
    refine j_aload_n dX6_dryOfSet_5 (q := 6) rfl rfl ?_
    refine j_getIV fs_X6_59 rfl rfl ((hC.at LM_farms).trans hn) dX6_dryOfSet_6 (q := 9) rfl ?_
    refine j_icmp_geN (by omega) (by omega) dX6_dryOfSet_9 (t := 38) (by decide) (q := 12) rfl (fun c_9 => ?_) (fun c_9 => ?_)
    · skip
      refine j_iload_n dX6_dryOfSet_38 (q := 39) rfl rfl ?_
      refine j_ireti dX6_dryOfSet_39 rfl ?_
      rw [hs]
      rw [show i = nf by omega]
      exact hZ
    · skip
      omega
  | succ k ih =>
    intro i sum Z hik hs hZ
    refine j_iload_n dX6_dryOfSet_4 (q := 5) rfl rfl ?_
    refine j_aload_n dX6_dryOfSet_5 (q := 6) rfl rfl ?_
    refine j_getIV fs_X6_59 rfl rfl ((hC.at LM_farms).trans hn) dX6_dryOfSet_6 (q := 9) rfl ?_
    refine j_icmp_geN (by omega) (by omega) dX6_dryOfSet_9 (t := 38) (by decide) (q := 12) rfl (fun c_9 => ?_) (fun c_9 => ?_)
    · skip
      omega
    · skip
      refine j_iload_n dX6_dryOfSet_12 (q := 13) rfl rfl ?_
      refine j_iload_n dX6_dryOfSet_13 (q := 14) rfl rfl ?_
      refine j_ishr dX6_dryOfSet_14 (q := 15) rfl ?_
      refine j_iconst (v := 1) dX6_dryOfSet_15 (q := 16) rfl (by decide) ?_
      refine j_iand dX6_dryOfSet_16 (q := 17) rfl ?_
      refine j_if_eq dX6_dryOfSet_17 (t := 32) (by decide) (q := 20) rfl (fun c_17 => ?_) (fun c_17 => ?_)
      · skip
        refine j_iincN_4_3 dX6_dryOfSet_32 (q := 35) rfl rfl rfl ?_
        refine j_goto (q := 4) dX6_dryOfSet_35 (by decide) ?_
        exact ih (i + 1) _ Z (by omega) (by rw [hs]; exact (if_neg (inS_no c_17)).symm) hZ
      · skip
        refine j_iload_n dX6_dryOfSet_20 (q := 21) rfl rfl ?_
        refine j_aload_n dX6_dryOfSet_21 (q := 22) rfl rfl ?_
        refine j_getR (r := 9) fs_X6_11 rfl rfl rfl dX6_dryOfSet_22 (q := 25) rfl ?_
        refine j_iload_n dX6_dryOfSet_25 (q := 26) rfl rfl ?_
        refine j_aaldN rfl (by omega) (rf_farm (by omega)) dX6_dryOfSet_26 (q := 27) rfl ?_
        refine j_getIV fs_X6_106 (tC_farm (by omega)) rfl (hC.farm (by omega) (by decide)) dX6_dryOfSet_27 (q := 30) rfl ?_
        refine j_iadd dX6_dryOfSet_30 (q := 31) rfl ?_
        refine j_istore_n_4_2 dX6_dryOfSet_31 (q := 32) rfl rfl rfl ?_
        refine j_iincN_4_3 dX6_dryOfSet_32 (q := 35) rfl rfl rfl ?_
        refine j_goto (q := 4) dX6_dryOfSet_35 (by decide) ?_
        exact ih (i + 1) _ Z (by omega) (by rw [hs]; exact (if_pos (inS_yes c_17)).symm) hZ
theorem ct_X6_dryOfSet {g : GT} {σ : S_} {t : Nat → Int32} {nf : Nat} {set : Int32} (hC : CW σ 8 t) (hn : t 5 = nI nf) (h7 : nf ≤ 7) : CT g 0 M_X6_dryOfSet [.ref 8, .int set] σ (EQ (.int (dryS t set nf)) σ) := by
  refine ct_of [.ref 8, .int set, .null, .null] pn_X6_dryOfSet rfl (Nat.le_of_ble_eq_true rfl) ?_
  refine j_iconst (v := 0) dX6_dryOfSet_0 (q := 1) rfl (by decide) ?_
  refine j_istore_n_4_2 dX6_dryOfSet_1 (q := 2) rfl rfl rfl ?_
  refine j_iconst (v := 0) dX6_dryOfSet_2 (q := 3) rfl (by decide) ?_
  refine j_istore_n_4_3 dX6_dryOfSet_3 (q := 4) rfl rfl rfl ?_
  exact ds_loop hC hn h7 nf 0 _ _ (by omega) rfl ⟨rfl, rfl⟩
theorem ps_loop {g : GT} {t : Nat → Int32} {nf : Nat} {set : Int32} (hn : t 5 = nI nf) (h7 : nf ≤ 7) (hT : TOK t 1) : ∀ (k i : Nat) (sum : Int32) (σ : S_) (Z : Value → S_ → Prop), CW σ 8 t → i + k = nf → sum = payS t set i → (∀ τ : S_, (∀ x, x ≠ 30 → τ x = σ x) → Z (.int (payS t set nf)) τ) → J g 4 M_X6_payOfSet Z 4 [.ref 8, .int set, .int sum, .int (nI i)] [] σ := by
  intro k
  induction k with
  | zero =>
    intro i sum σ Z hC hik hs hZ
    refine j_iload_n dX6_payOfSet_4 (q := 5) rfl rfl ?_
    refine j_aload_n dX6_payOfSet_5 (q := 6) rfl rfl ?_
    refine j_getIV fs_X6_59 rfl rfl ((hC.at LM_farms).trans hn) dX6_payOfSet_6 (q := 9) rfl ?_
    refine j_icmp_geN (by omega) (by omega) dX6_payOfSet_9 (t := 39) (by decide) (q := 12) rfl (fun c_9 => ?_) (fun c_9 => ?_)
    · skip
      refine j_iload_n dX6_payOfSet_39 (q := 40) rfl rfl ?_
      refine j_ireti dX6_payOfSet_40 rfl ?_
      rw [hs]
      rw [show i = nf by omega]
      exact hZ σ (fun _ _ => rfl)
    · skip
      omega
  | succ k ih =>
    intro i sum σ Z hC hik hs hZ
    refine j_iload_n dX6_payOfSet_4 (q := 5) rfl rfl ?_
    refine j_aload_n dX6_payOfSet_5 (q := 6) rfl rfl ?_
    refine j_getIV fs_X6_59 rfl rfl ((hC.at LM_farms).trans hn) dX6_payOfSet_6 (q := 9) rfl ?_
    refine j_icmp_geN (by omega) (by omega) dX6_payOfSet_9 (t := 39) (by decide) (q := 12) rfl (fun c_9 => ?_) (fun c_9 => ?_)
    · skip
      omega
    · skip
      refine j_iload_n dX6_payOfSet_12 (q := 13) rfl rfl ?_
      refine j_iload_n dX6_payOfSet_13 (q := 14) rfl rfl ?_
      refine j_ishr dX6_payOfSet_14 (q := 15) rfl ?_
      refine j_iconst (v := 1) dX6_payOfSet_15 (q := 16) rfl (by decide) ?_
      refine j_iand dX6_payOfSet_16 (q := 17) rfl ?_
      refine j_if_eq dX6_payOfSet_17 (t := 33) (by decide) (q := 20) rfl (fun c_17 => ?_) (fun c_17 => ?_)
      · skip
        refine j_iincN_4_3 dX6_payOfSet_33 (q := 36) rfl rfl rfl ?_
        refine j_goto (q := 4) dX6_payOfSet_36 (by decide) ?_
        exact ih (i + 1) _ _ Z hC (by omega) (by rw [hs]; exact (if_neg (inS_no c_17)).symm) hZ
      · skip
        refine j_iload_n dX6_payOfSet_20 (q := 21) rfl rfl ?_
        refine j_aload_n dX6_payOfSet_21 (q := 22) rfl rfl ?_
        refine j_aload_n dX6_payOfSet_22 (q := 23) rfl rfl ?_
        refine j_getR (r := 9) fs_X6_11 rfl rfl rfl dX6_payOfSet_23 (q := 26) rfl ?_
        refine j_iload_n dX6_payOfSet_26 (q := 27) rfl rfl ?_
        refine j_aaldN rfl (by omega) (rf_farm (by omega)) dX6_payOfSet_27 (q := 28) rfl ?_
        refine j_callVi1 (M' := M_X6_payOf) lk_X6_112 mv_X6_payOf ob_8 (by decide) (Nat.le_of_ble_eq_true rfl) dX6_payOfSet_28 (q := 31) rfl (ct_X6_payOf (tC_farm (by omega)) hT hC.2.2.2) ?_
        intro x1 τ1 hz
        obtain ⟨h1, hτ1⟩ := hz
        cases h1
        refine j_iadd dX6_payOfSet_31 (q := 32) rfl ?_
        refine j_istore_n_4_2 dX6_payOfSet_32 (q := 33) rfl rfl rfl ?_
        refine j_iincN_4_3 dX6_payOfSet_33 (q := 36) rfl rfl rfl ?_
        refine j_goto (q := 4) dX6_payOfSet_36 (by decide) ?_
        refine ih (i + 1) _ τ1 Z (hC.frame (fun c h1 h2 h3 => hτ1 _ (by omega))) (by omega) ?_ (fun τ hτ => hZ τ (fun x hx => (hτ x hx).trans (hτ1 x hx)))
        rw [hs, hC.farm (k := 0) (by omega) (by decide), hC.farm (k := 2) (by omega) (by decide), hC.farm (k := 3) (by omega) (by decide), hC.farm (k := 4) (by omega) (by decide)]
        exact (if_pos (inS_yes c_17)).symm
theorem ct_X6_payOfSet {g : GT} {σ : S_} {t : Nat → Int32} {nf : Nat} {set : Int32} (hC : CW σ 8 t) (hn : t 5 = nI nf) (h7 : nf ≤ 7) (hT : TOK t 1) : CT g 4 M_X6_payOfSet [.ref 8, .int set] σ (fun r τ => r = .int (payS t set nf) ∧ ∀ x, x ≠ 30 → τ x = σ x) := by
  refine ct_of [.ref 8, .int set, .null, .null] pn_X6_payOfSet rfl (Nat.le_of_ble_eq_true rfl) ?_
  refine j_iconst (v := 0) dX6_payOfSet_0 (q := 1) rfl (by decide) ?_
  refine j_istore_n_4_2 dX6_payOfSet_1 (q := 2) rfl rfl rfl ?_
  refine j_iconst (v := 0) dX6_payOfSet_2 (q := 3) rfl (by decide) ?_
  refine j_istore_n_4_3 dX6_payOfSet_3 (q := 4) rfl rfl rfl ?_
  exact ps_loop hn h7 hT nf 0 _ σ _ hC (by omega) rfl (fun τ hτ => ⟨rfl, hτ⟩)
theorem dm_loop {g : GT} {σ : S_} {nf : Nat} {set : Int32} (hn : σ 71 5 = nI nf) (h7 : nf ≤ 7) : ∀ (k i : Nat) (sum : Int32) (Z : Value → S_ → Prop), i + k = nf → sum = dryS (σ 71) set i → Z (.int (dryS (σ 71) set nf)) σ → J g 1 M_X8_dryOf Z 4 [.ref 70, .int set, .int sum, .int (nI i)] [] σ := by
  intro k
  induction k with
  | zero =>
    intro i sum Z hik hs hZ
    refine j_iload_n dX8_dryOf_4 (q := 5) rfl rfl ?_
    refine j_aload_n dX8_dryOf_5 (q := 6) rfl rfl ?_
    refine j_getR (r := 71) fs_X8_7 rfl rfl rfl dX8_dryOf_6 (q := 9) rfl ?_
    refine j_iconst (v := 5) dX8_dryOf_9 (q := 10) rfl (by decide) ?_
    refine j_ialdV (k := 5) rfl (by decide) hn dX8_dryOf_10 (q := 11) rfl ?_
    refine j_icmp_geN (by omega) (by omega) dX8_dryOf_11 (t := 42) (by decide) (q := 14) rfl (fun c_11 => ?_) (fun c_11 => ?_)
    · skip
      refine j_iload_n dX8_dryOf_42 (q := 43) rfl rfl ?_
      refine j_ireti dX8_dryOf_43 rfl ?_
      rw [hs]
      rw [show i = nf by omega]
      exact hZ
    · skip
      omega
  | succ k ih =>
    intro i sum Z hik hs hZ
    refine j_iload_n dX8_dryOf_4 (q := 5) rfl rfl ?_
    refine j_aload_n dX8_dryOf_5 (q := 6) rfl rfl ?_
    refine j_getR (r := 71) fs_X8_7 rfl rfl rfl dX8_dryOf_6 (q := 9) rfl ?_
    refine j_iconst (v := 5) dX8_dryOf_9 (q := 10) rfl (by decide) ?_
    refine j_ialdV (k := 5) rfl (by decide) hn dX8_dryOf_10 (q := 11) rfl ?_
    refine j_icmp_geN (by omega) (by omega) dX8_dryOf_11 (t := 42) (by decide) (q := 14) rfl (fun c_11 => ?_) (fun c_11 => ?_)
    · skip
      omega
    · skip
      refine j_iload_n dX8_dryOf_14 (q := 15) rfl rfl ?_
      refine j_iload_n dX8_dryOf_15 (q := 16) rfl rfl ?_
      refine j_iload_n dX8_dryOf_16 (q := 17) rfl rfl ?_
      refine j_ishr dX8_dryOf_17 (q := 18) rfl ?_
      refine j_iconst (v := 1) dX8_dryOf_18 (q := 19) rfl (by decide) ?_
      refine j_iand dX8_dryOf_19 (q := 20) rfl ?_
      refine j_iconst (v := 1) dX8_dryOf_20 (q := 21) rfl (by decide) ?_
      refine j_icmp_ne dX8_dryOf_21 (t := 33) (by decide) (q := 24) rfl (fun c_21 => ?_) (fun c_21 => ?_)
      · skip
        refine j_iconst (v := 0) dX8_dryOf_33 (q := 34) rfl (by decide) ?_
        refine j_iadd dX8_dryOf_34 (q := 35) rfl ?_
        refine j_istore_n_4_2 dX8_dryOf_35 (q := 36) rfl rfl rfl ?_
        refine j_iincN_4_3 dX8_dryOf_36 (q := 39) rfl rfl rfl ?_
        refine j_goto (q := 4) dX8_dryOf_39 (by decide) ?_
        exact ih (i + 1) _ Z (by omega) (by rw [hs]; first | exact (if_pos c_21).symm | exact (Int32.add_zero _).trans (if_neg c_21).symm) hZ
      · skip
        refine j_aload_n dX8_dryOf_24 (q := 25) rfl rfl ?_
        refine j_iload_n dX8_dryOf_25 (q := 26) rfl rfl ?_
        refine j_iconst (v := 4) dX8_dryOf_26 (q := 27) rfl (by decide) ?_
        refine j_callVi2E (M' := M_X8_its) lk_X8_123 mv_X8_its ob_70 (by decide) (Nat.le_of_ble_eq_true rfl) dX8_dryOf_27 (q := 30) rfl (ct_X8_its (k := 4) (by omega) (by decide)) ?_
        refine j_goto (q := 34) dX8_dryOf_30 (by decide) ?_
        refine j_iadd dX8_dryOf_34 (q := 35) rfl ?_
        refine j_istore_n_4_2 dX8_dryOf_35 (q := 36) rfl rfl rfl ?_
        refine j_iincN_4_3 dX8_dryOf_36 (q := 39) rfl rfl rfl ?_
        refine j_goto (q := 4) dX8_dryOf_39 (by decide) ?_
        exact ih (i + 1) _ Z (by omega) (by rw [hs]; first | exact (if_pos c_21).symm | exact (Int32.add_zero _).trans (if_neg c_21).symm) hZ
theorem ct_X8_dryOf {g : GT} {σ : S_} {nf : Nat} {set : Int32} (hn : σ 71 5 = nI nf) (h7 : nf ≤ 7) : CT g 1 M_X8_dryOf [.ref 70, .int set] σ (EQ (.int (dryS (σ 71) set nf)) σ) := by
  refine ct_of [.ref 70, .int set, .null, .null] pn_X8_dryOf rfl (Nat.le_of_ble_eq_true rfl) ?_
  refine j_iconst (v := 0) dX8_dryOf_0 (q := 1) rfl (by decide) ?_
  refine j_istore_n_4_2 dX8_dryOf_1 (q := 2) rfl rfl rfl ?_
  refine j_iconst (v := 0) dX8_dryOf_2 (q := 3) rfl (by decide) ?_
  refine j_istore_n_4_3 dX8_dryOf_3 (q := 4) rfl rfl rfl ?_
  exact dm_loop hn h7 nf 0 _ _ (by omega) rfl ⟨rfl, rfl⟩
