theorem allN {σ : S_} {t : Nat → Int32} {nf : Nat} (hC : CW σ 8 t) (hn : t 5 = nI nf) (h7 : nf ≤ 7) : (1 : Int32) <<< (σ 8 1 &&& 31) - 1 = nI (2 ^ nf - 1) := by
  rw [show σ 8 1 = t 5 from hC.at LM_farms, hn, shl1m h7]
theorem p127 {nf : Nat} (h7 : nf ≤ 7) : 2 ^ nf - 1 ≤ 127 ∧ 1 ≤ 2 ^ nf := by
  rcases (show nf = 0 ∨ nf = 1 ∨ nf = 2 ∨ nf = 3 ∨ nf = 4 ∨ nf = 5 ∨ nf = 6 ∨ nf = 7 by omega) with rfl | rfl | rfl | rfl | rfl | rfl | rfl | rfl <;> decide
/-- how many of 1 .. n -/
def pcn (Q : Nat → Bool) : Nat → Nat
  | 0 => 0
  | n + 1 => pcn Q n + (if Q (n + 1) = true then 1 else 0)
theorem pcn_le {Q : Nat → Bool} : ∀ n, pcn Q n ≤ n := by
  intro n
  induction n with
  | zero => exact Nat.le_refl _
  | succ n ih => unfold pcn; split <;> omega
theorem pcn_mono {Q : Nat → Bool} {i : Nat} : ∀ n, i ≤ n → pcn Q i ≤ pcn Q n := by
  intro n
  induction n with
  | zero => intro h; rw [show i = 0 by omega]; exact Nat.le_refl _
  | succ n ih =>
    intro h
    by_cases e : i = n + 1
    · subst e; exact Nat.le_refl _
    · exact Nat.le_trans (ih (by omega)) (Nat.le_add_right _ _)
/-- the first from i on, 0 if none -/
def fstQ (Q : Nat → Bool) : Nat → Nat → Nat
  | 0, _ => 0
  | k + 1, i => if Q i = true then i else fstQ Q k (i + 1)
theorem fstQ_le {Q : Nat → Bool} : ∀ k i, fstQ Q k i ≤ i + k := by
  intro k
  induction k with
  | zero => intro i; exact Nat.zero_le _
  | succ k ih => intro i; unfold fstQ; split
                 · omega
                 · have := ih (i + 1); omega
def rnd (D Pf : Nat → Int32) (b : Int32) : Nat → Nat × Int32
  | 0 => (0, 0)
  | n + 1 => if D (n + 1) ≤ b ∧ (rnd D Pf b n).2 < Pf (n + 1) then (n + 1, Pf (n + 1)) else rnd D Pf b n
theorem rnd_le {D Pf : Nat → Int32} {b : Int32} : ∀ n, (rnd D Pf b n).1 ≤ n := by
  intro n
  induction n with
  | zero => exact Nat.le_refl _
  | succ n ih => unfold rnd; split
                 · exact Nat.le_refl _
                 · omega
theorem rnd_snd {D Pf : Nat → Int32} {b : Int32} (h0 : Pf 0 = 0) : ∀ n, (rnd D Pf b n).2 = Pf (rnd D Pf b n).1 := by
  intro n
  induction n with
  | zero => exact h0.symm
  | succ n ih => unfold rnd; split
                 · rfl
                 · exact ih
theorem inS0 {n : Nat} (h : n < 7) : ¬ inS (nI 0) n := by
  rcases (show n = 0 ∨ n = 1 ∨ n = 2 ∨ n = 3 ∨ n = 4 ∨ n = 5 ∨ n = 6 by omega) with rfl | rfl | rfl | rfl | rfl | rfl | rfl <;> (unfold inS; decide)
theorem payS0 {t : Nat → Int32} : ∀ n, n ≤ 7 → payS t (nI 0) n = 0 := by
  intro n
  induction n with
  | zero => intro _; rfl
  | succ n ih => intro h; rw [show payS t (nI 0) (n + 1) = payS t (nI 0) n from if_neg (inS0 (by omega))]; exact ih (by omega)
def rndT (t : Nat → Int32) (nf : Nat) (b : Int32) : Nat → Nat × Int32 := rnd (fun n => dryS t (nI n) nf) (fun n => payS t (nI n) nf) b
def euc : Nat → Nat → Nat → Nat
  | 0, a, _ => a
  | k + 1, a, b => if 0 < b then euc k b (a % b) else a
theorem euc_gcd : ∀ a, a < 128 → ∀ b, b < 128 → euc 100 a b = Nat.gcd b a := by decide +kernel
theorem sw_loop {g : GT} {σ : S_} {t : Nat → Int32} {nf : Nat} {b : Int32} (hn : t 5 = nI nf) (h7 : nf ≤ 7) (hC : CW σ 8 t) {Z : Value → S_ → Prop} (hZ : Z (.int (nI (pcn (fun n => decide (dryS t (nI n) nf ≤ b)) (2 ^ nf - 1)))) σ) : ∀ (k i : Nat), i + k = 2 ^ nf - 1 → J g 1 M_X4_setsWithin Z 4 [.ref 3, .int b, .int (nI (pcn (fun n => decide (dryS t (nI n) nf ≤ b)) i)), .int (nI (i + 1))] [] σ := by
  intro k
  induction k with
  | zero =>
    intro i hik
    have h127 := p127 h7
    refine j_iload_n dX4_setsWithin_4 (q := 5) rfl rfl ?_
    refine j_aload_n dX4_setsWithin_5 (q := 6) rfl rfl ?_
    refine j_getR (r := 8) fs_X4_24 rfl rfl rfl dX4_setsWithin_6 (q := 9) rfl ?_
    refine j_callVi0E (M' := M_X6_allFarms) lk_X4_82 mv_X6_allFarms ob_8 (by decide) (Nat.le_of_ble_eq_true rfl) dX4_setsWithin_9 (q := 12) rfl (ct_X6_allFarms) ?_
    rw [allN hC hn h7]
    refine j_icmp_gtN (by omega) (by omega) dX4_setsWithin_12 (t := 36) (by decide) (q := 15) rfl (fun c_12 => ?_) (fun c_12 => ?_)
    · skip
      refine j_iload_n dX4_setsWithin_36 (q := 37) rfl rfl ?_
      refine j_ireti dX4_setsWithin_37 rfl ?_
      rw [show i = 2 ^ nf - 1 by omega]
      exact hZ
    · skip
      omega
  | succ k ih =>
    intro i hik
    have h127 := p127 h7
    refine j_iload_n dX4_setsWithin_4 (q := 5) rfl rfl ?_
    refine j_aload_n dX4_setsWithin_5 (q := 6) rfl rfl ?_
    refine j_getR (r := 8) fs_X4_24 rfl rfl rfl dX4_setsWithin_6 (q := 9) rfl ?_
    refine j_callVi0E (M' := M_X6_allFarms) lk_X4_82 mv_X6_allFarms ob_8 (by decide) (Nat.le_of_ble_eq_true rfl) dX4_setsWithin_9 (q := 12) rfl (ct_X6_allFarms) ?_
    rw [allN hC hn h7]
    refine j_icmp_gtN (by omega) (by omega) dX4_setsWithin_12 (t := 36) (by decide) (q := 15) rfl (fun c_12 => ?_) (fun c_12 => ?_)
    · skip
      omega
    · skip
      refine j_aload_n dX4_setsWithin_15 (q := 16) rfl rfl ?_
      refine j_getR (r := 8) fs_X4_24 rfl rfl rfl dX4_setsWithin_16 (q := 19) rfl ?_
      refine j_iload_n dX4_setsWithin_19 (q := 20) rfl rfl ?_
      refine j_callVi1E (M' := M_X6_dryOfSet) lk_X4_86 mv_X6_dryOfSet ob_8 (by decide) (Nat.le_of_ble_eq_true rfl) dX4_setsWithin_20 (q := 23) rfl (ct_X6_dryOfSet hC hn h7) ?_
      refine j_iload_n dX4_setsWithin_23 (q := 24) rfl rfl ?_
      refine j_icmp_gt dX4_setsWithin_24 (t := 30) (by decide) (q := 27) rfl (fun c_24 => ?_) (fun c_24 => ?_)
      · skip
        refine j_iincN_4_3 dX4_setsWithin_30 (q := 33) rfl rfl rfl ?_
        refine j_goto (q := 4) dX4_setsWithin_33 (by decide) ?_
        have hq : pcn (fun n => decide (dryS t (nI n) nf ≤ b)) (i + 1) = pcn (fun n => decide (dryS t (nI n) nf ≤ b)) i := by show _ + _ = _; rw [if_neg (by simp; grind)]; rfl
        have hj := ih (i + 1) (by omega)
        rw [hq] at hj
        exact hj
      · skip
        refine j_iincN_4_2 dX4_setsWithin_27 (q := 30) rfl rfl rfl ?_
        refine j_iincN_4_3 dX4_setsWithin_30 (q := 33) rfl rfl rfl ?_
        refine j_goto (q := 4) dX4_setsWithin_33 (by decide) ?_
        have hq : pcn (fun n => decide (dryS t (nI n) nf ≤ b)) (i + 1) = pcn (fun n => decide (dryS t (nI n) nf ≤ b)) i + 1 := by show _ + _ = _; rw [if_pos (by simp; grind)]
        have hj := ih (i + 1) (by omega)
        rw [hq] at hj
        exact hj
theorem ct_X4_setsWithin {g : GT} {σ : S_} {t : Nat → Int32} {nf : Nat} {b : Int32} (hn : t 5 = nI nf) (h7 : nf ≤ 7) (hC : CW σ 8 t) : CT g 1 M_X4_setsWithin [.ref 3, .int b] σ (EQ (.int (nI (pcn (fun n => decide (dryS t (nI n) nf ≤ b)) (2 ^ nf - 1)))) σ) := by
  refine ct_of [.ref 3, .int b, .null, .null] pn_X4_setsWithin rfl (Nat.le_of_ble_eq_true rfl) ?_
  refine j_iconst (v := 0) dX4_setsWithin_0 (q := 1) rfl (by decide) ?_
  refine j_istore_n_4_2 dX4_setsWithin_1 (q := 2) rfl rfl rfl ?_
  refine j_iconst (v := 1) dX4_setsWithin_2 (q := 3) rfl (by decide) ?_
  refine j_istore_n_4_3 dX4_setsWithin_3 (q := 4) rfl rfl rfl ?_
  exact sw_loop hn h7 hC ⟨rfl, rfl⟩ (2 ^ nf - 1) 0 (by omega)
theorem so_loop {g : GT} {σ : S_} {t : Nat → Int32} {nf : Nat} {b : Int32} (hn : t 5 = nI nf) (h7 : nf ≤ 7) (hC : CW σ 8 t) {Z : Value → S_ → Prop} (hZ : Z (.int (nI (pcn (fun n => decide (dryS t (nI n) nf = b)) (2 ^ nf - 1)))) σ) : ∀ (k i : Nat), i + k = 2 ^ nf - 1 → J g 1 M_X4_setsOf Z 4 [.ref 3, .int b, .int (nI (pcn (fun n => decide (dryS t (nI n) nf = b)) i)), .int (nI (i + 1))] [] σ := by
  intro k
  induction k with
  | zero =>
    intro i hik
    have h127 := p127 h7
    refine j_iload_n dX4_setsOf_4 (q := 5) rfl rfl ?_
    refine j_aload_n dX4_setsOf_5 (q := 6) rfl rfl ?_
    refine j_getR (r := 8) fs_X4_24 rfl rfl rfl dX4_setsOf_6 (q := 9) rfl ?_
    refine j_callVi0E (M' := M_X6_allFarms) lk_X4_82 mv_X6_allFarms ob_8 (by decide) (Nat.le_of_ble_eq_true rfl) dX4_setsOf_9 (q := 12) rfl (ct_X6_allFarms) ?_
    rw [allN hC hn h7]
    refine j_icmp_gtN (by omega) (by omega) dX4_setsOf_12 (t := 36) (by decide) (q := 15) rfl (fun c_12 => ?_) (fun c_12 => ?_)
    · skip
      refine j_iload_n dX4_setsOf_36 (q := 37) rfl rfl ?_
      refine j_ireti dX4_setsOf_37 rfl ?_
      rw [show i = 2 ^ nf - 1 by omega]
      exact hZ
    · skip
      omega
  | succ k ih =>
    intro i hik
    have h127 := p127 h7
    refine j_iload_n dX4_setsOf_4 (q := 5) rfl rfl ?_
    refine j_aload_n dX4_setsOf_5 (q := 6) rfl rfl ?_
    refine j_getR (r := 8) fs_X4_24 rfl rfl rfl dX4_setsOf_6 (q := 9) rfl ?_
    refine j_callVi0E (M' := M_X6_allFarms) lk_X4_82 mv_X6_allFarms ob_8 (by decide) (Nat.le_of_ble_eq_true rfl) dX4_setsOf_9 (q := 12) rfl (ct_X6_allFarms) ?_
    rw [allN hC hn h7]
    refine j_icmp_gtN (by omega) (by omega) dX4_setsOf_12 (t := 36) (by decide) (q := 15) rfl (fun c_12 => ?_) (fun c_12 => ?_)
    · skip
      omega
    · skip
      refine j_aload_n dX4_setsOf_15 (q := 16) rfl rfl ?_
      refine j_getR (r := 8) fs_X4_24 rfl rfl rfl dX4_setsOf_16 (q := 19) rfl ?_
      refine j_iload_n dX4_setsOf_19 (q := 20) rfl rfl ?_
      refine j_callVi1E (M' := M_X6_dryOfSet) lk_X4_86 mv_X6_dryOfSet ob_8 (by decide) (Nat.le_of_ble_eq_true rfl) dX4_setsOf_20 (q := 23) rfl (ct_X6_dryOfSet hC hn h7) ?_
      refine j_iload_n dX4_setsOf_23 (q := 24) rfl rfl ?_
      refine j_icmp_ne dX4_setsOf_24 (t := 30) (by decide) (q := 27) rfl (fun c_24 => ?_) (fun c_24 => ?_)
      · skip
        refine j_iincN_4_3 dX4_setsOf_30 (q := 33) rfl rfl rfl ?_
        refine j_goto (q := 4) dX4_setsOf_33 (by decide) ?_
        have hq : pcn (fun n => decide (dryS t (nI n) nf = b)) (i + 1) = pcn (fun n => decide (dryS t (nI n) nf = b)) i := by show _ + _ = _; rw [if_neg (by simp; exact c_24)]; rfl
        have hj := ih (i + 1) (by omega)
        rw [hq] at hj
        exact hj
      · skip
        refine j_iincN_4_2 dX4_setsOf_27 (q := 30) rfl rfl rfl ?_
        refine j_iincN_4_3 dX4_setsOf_30 (q := 33) rfl rfl rfl ?_
        refine j_goto (q := 4) dX4_setsOf_33 (by decide) ?_
        have hq : pcn (fun n => decide (dryS t (nI n) nf = b)) (i + 1) = pcn (fun n => decide (dryS t (nI n) nf = b)) i + 1 := by show _ + _ = _; rw [if_pos (by simp; exact c_24)]
        have hj := ih (i + 1) (by omega)
        rw [hq] at hj
        exact hj
theorem ct_X4_setsOf {g : GT} {σ : S_} {t : Nat → Int32} {nf : Nat} {b : Int32} (hn : t 5 = nI nf) (h7 : nf ≤ 7) (hC : CW σ 8 t) : CT g 1 M_X4_setsOf [.ref 3, .int b] σ (EQ (.int (nI (pcn (fun n => decide (dryS t (nI n) nf = b)) (2 ^ nf - 1)))) σ) := by
  refine ct_of [.ref 3, .int b, .null, .null] pn_X4_setsOf rfl (Nat.le_of_ble_eq_true rfl) ?_
  refine j_iconst (v := 0) dX4_setsOf_0 (q := 1) rfl (by decide) ?_
  refine j_istore_n_4_2 dX4_setsOf_1 (q := 2) rfl rfl rfl ?_
  refine j_iconst (v := 1) dX4_setsOf_2 (q := 3) rfl (by decide) ?_
  refine j_istore_n_4_3 dX4_setsOf_3 (q := 4) rfl rfl rfl ?_
  exact so_loop hn h7 hC ⟨rfl, rfl⟩ (2 ^ nf - 1) 0 (by omega)
theorem ls_loop {g : GT} {σ : S_} {t : Nat → Int32} {nf : Nat} {b : Int32} (hn : t 5 = nI nf) (h7 : nf ≤ 7) (hC : CW σ 8 t) {Z : Value → S_ → Prop} : ∀ (k i : Nat), i + k = 2 ^ nf → 1 ≤ i → Z (.int (nI (fstQ (fun n => decide (dryS t (nI n) nf = b)) k i))) σ → J g 1 M_X4_leastSetOf Z 2 [.ref 3, .int b, .int (nI i)] [] σ := by
  intro k
  induction k with
  | zero =>
    intro i hik h1 hZ
    have h127 := p127 h7
    refine j_iload_n dX4_leastSetOf_2 (q := 3) rfl rfl ?_
    refine j_aload_n dX4_leastSetOf_3 (q := 4) rfl rfl ?_
    refine j_getR (r := 8) fs_X4_24 rfl rfl rfl dX4_leastSetOf_4 (q := 7) rfl ?_
    refine j_callVi0E (M' := M_X6_allFarms) lk_X4_82 mv_X6_allFarms ob_8 (by decide) (Nat.le_of_ble_eq_true rfl) dX4_leastSetOf_7 (q := 10) rfl (ct_X6_allFarms) ?_
    rw [allN hC hn h7]
    refine j_icmp_gtN (by omega) (by omega) dX4_leastSetOf_10 (t := 33) (by decide) (q := 13) rfl (fun c_10 => ?_) (fun c_10 => ?_)
    · skip
      refine j_iconst (v := 0) dX4_leastSetOf_33 (q := 34) rfl (by decide) ?_
      refine j_ireti dX4_leastSetOf_34 rfl ?_
      exact hZ
    · skip
      omega
  | succ k ih =>
    intro i hik h1 hZ
    have h127 := p127 h7
    refine j_iload_n dX4_leastSetOf_2 (q := 3) rfl rfl ?_
    refine j_aload_n dX4_leastSetOf_3 (q := 4) rfl rfl ?_
    refine j_getR (r := 8) fs_X4_24 rfl rfl rfl dX4_leastSetOf_4 (q := 7) rfl ?_
    refine j_callVi0E (M' := M_X6_allFarms) lk_X4_82 mv_X6_allFarms ob_8 (by decide) (Nat.le_of_ble_eq_true rfl) dX4_leastSetOf_7 (q := 10) rfl (ct_X6_allFarms) ?_
    rw [allN hC hn h7]
    refine j_icmp_gtN (by omega) (by omega) dX4_leastSetOf_10 (t := 33) (by decide) (q := 13) rfl (fun c_10 => ?_) (fun c_10 => ?_)
    · skip
      omega
    · skip
      refine j_aload_n dX4_leastSetOf_13 (q := 14) rfl rfl ?_
      refine j_getR (r := 8) fs_X4_24 rfl rfl rfl dX4_leastSetOf_14 (q := 17) rfl ?_
      refine j_iload_n dX4_leastSetOf_17 (q := 18) rfl rfl ?_
      refine j_callVi1E (M' := M_X6_dryOfSet) lk_X4_86 mv_X6_dryOfSet ob_8 (by decide) (Nat.le_of_ble_eq_true rfl) dX4_leastSetOf_18 (q := 21) rfl (ct_X6_dryOfSet hC hn h7) ?_
      refine j_iload_n dX4_leastSetOf_21 (q := 22) rfl rfl ?_
      refine j_icmp_ne dX4_leastSetOf_22 (t := 27) (by decide) (q := 25) rfl (fun c_22 => ?_) (fun c_22 => ?_)
      · skip
        refine j_iincN_3_2 dX4_leastSetOf_27 (q := 30) rfl rfl rfl ?_
        refine j_goto (q := 2) dX4_leastSetOf_30 (by decide) ?_
        rw [show fstQ (fun n => decide (dryS t (nI n) nf = b)) (k + 1) i = fstQ (fun n => decide (dryS t (nI n) nf = b)) k (i + 1) from if_neg (by simp; exact c_22)] at hZ
        exact ih (i + 1) (by omega) (by omega) hZ
      · skip
        refine j_iload_n dX4_leastSetOf_25 (q := 26) rfl rfl ?_
        refine j_ireti dX4_leastSetOf_26 rfl ?_
        rw [show fstQ (fun n => decide (dryS t (nI n) nf = b)) (k + 1) i = i from if_pos (by simp; exact c_22)] at hZ
        exact hZ
theorem ct_X4_leastSetOf {g : GT} {σ : S_} {t : Nat → Int32} {nf : Nat} {b : Int32} (hn : t 5 = nI nf) (h7 : nf ≤ 7) (hC : CW σ 8 t) : CT g 1 M_X4_leastSetOf [.ref 3, .int b] σ (EQ (.int (nI (fstQ (fun n => decide (dryS t (nI n) nf = b)) (2 ^ nf - 1) 1))) σ) := by
  have h127 := p127 h7
  refine ct_of [.ref 3, .int b, .null] pn_X4_leastSetOf rfl (Nat.le_of_ble_eq_true rfl) ?_
  refine j_iconst (v := 1) dX4_leastSetOf_0 (q := 1) rfl (by decide) ?_
  refine j_istore_n_3_2 dX4_leastSetOf_1 (q := 2) rfl rfl rfl ?_
  exact ls_loop hn h7 hC (2 ^ nf - 1) 1 (by omega) (by decide) ⟨rfl, rfl⟩
theorem bs_loop {g : GT} {t : Nat → Int32} {nf : Nat} {b : Int32} (hn : t 5 = nI nf) (h7 : nf ≤ 7) (hT : TOK t 1) {σ0 : S_} : ∀ (k i : Nat) (v5 : Value) (σ : S_), i + k = 2 ^ nf - 1 → CW σ 8 t → (∀ x, x ≠ 30 → σ x = σ0 x) → J g 5 M_X4_bestSet (fun r τ => r = .int (nI (rndT t nf b (2 ^ nf - 1)).1) ∧ ∀ x, x ≠ 30 → τ x = σ0 x) 7 [.ref 3, .int b, .int (nI (rndT t nf b i).1), .int (rndT t nf b i).2, .int (nI (i + 1)), v5] [] σ := by
  intro k
  induction k with
  | zero =>
    intro i v5 σ hik hC hO
    have h127 := p127 h7
    refine j_iload dX4_bestSet_7 (q := 9) rfl rfl ?_
    refine j_aload_n dX4_bestSet_9 (q := 10) rfl rfl ?_
    refine j_getR (r := 8) fs_X4_24 rfl rfl rfl dX4_bestSet_10 (q := 13) rfl ?_
    refine j_callVi0E (M' := M_X6_allFarms) lk_X4_82 mv_X6_allFarms ob_8 (by decide) (Nat.le_of_ble_eq_true rfl) dX4_bestSet_13 (q := 16) rfl (ct_X6_allFarms) ?_
    rw [allN hC hn h7]
    refine j_icmp_gtN (by omega) (by omega) dX4_bestSet_16 (t := 61) (by decide) (q := 19) rfl (fun c_16 => ?_) (fun c_16 => ?_)
    · skip
      refine j_iload_n dX4_bestSet_61 (q := 62) rfl rfl ?_
      refine j_ireti dX4_bestSet_62 rfl ?_
      rw [show i = 2 ^ nf - 1 by omega]
      exact ⟨rfl, hO⟩
    · skip
      omega
  | succ k ih =>
    intro i v5 σ hik hC hO
    have h127 := p127 h7
    refine j_iload dX4_bestSet_7 (q := 9) rfl rfl ?_
    refine j_aload_n dX4_bestSet_9 (q := 10) rfl rfl ?_
    refine j_getR (r := 8) fs_X4_24 rfl rfl rfl dX4_bestSet_10 (q := 13) rfl ?_
    refine j_callVi0E (M' := M_X6_allFarms) lk_X4_82 mv_X6_allFarms ob_8 (by decide) (Nat.le_of_ble_eq_true rfl) dX4_bestSet_13 (q := 16) rfl (ct_X6_allFarms) ?_
    rw [allN hC hn h7]
    refine j_icmp_gtN (by omega) (by omega) dX4_bestSet_16 (t := 61) (by decide) (q := 19) rfl (fun c_16 => ?_) (fun c_16 => ?_)
    · skip
      omega
    · skip
      refine j_aload_n dX4_bestSet_19 (q := 20) rfl rfl ?_
      refine j_getR (r := 8) fs_X4_24 rfl rfl rfl dX4_bestSet_20 (q := 23) rfl ?_
      refine j_iload dX4_bestSet_23 (q := 25) rfl rfl ?_
      refine j_callVi1E (M' := M_X6_dryOfSet) lk_X4_86 mv_X6_dryOfSet ob_8 (by decide) (Nat.le_of_ble_eq_true rfl) dX4_bestSet_25 (q := 28) rfl (ct_X6_dryOfSet hC hn h7) ?_
      refine j_iload_n dX4_bestSet_28 (q := 29) rfl rfl ?_
      refine j_icmp_gt dX4_bestSet_29 (t := 55) (by decide) (q := 32) rfl (fun c_29 => ?_) (fun c_29 => ?_)
      · skip
        refine j_iincN_6_4 dX4_bestSet_55 (q := 58) rfl rfl rfl ?_
        refine j_goto (q := 7) dX4_bestSet_58 (by decide) ?_
        have hj := ih (i + 1) v5 σ (by omega) hC hO
        rw [show rndT t nf b (i + 1) = rndT t nf b i from if_neg (fun q => absurd q.1 (Int32.not_le.mpr c_29))] at hj
        exact hj
      · skip
        refine j_aload_n dX4_bestSet_32 (q := 33) rfl rfl ?_
        refine j_getR (r := 8) fs_X4_24 rfl rfl rfl dX4_bestSet_33 (q := 36) rfl ?_
        refine j_iload dX4_bestSet_36 (q := 38) rfl rfl ?_
        refine j_callVi1 (M' := M_X6_payOfSet) lk_X4_89 mv_X6_payOfSet ob_8 (by decide) (Nat.le_of_ble_eq_true rfl) dX4_bestSet_38 (q := 41) rfl (ct_X6_payOfSet hC hn h7 hT) ?_
        intro x1 τ1 hz
        obtain ⟨h1, hτ1⟩ := hz
        cases h1
        have hC1 : CW τ1 8 t := hC.frame (fun c h1 h2 h3 => hτ1 _ (by omega))
        have hO1 : ∀ x, x ≠ 30 → τ1 x = σ0 x := fun x hx => (hτ1 x hx).trans (hO x hx)
        refine j_istore_6_5 dX4_bestSet_41 (q := 43) rfl rfl rfl ?_
        refine j_iload dX4_bestSet_43 (q := 45) rfl rfl ?_
        refine j_iload_n dX4_bestSet_45 (q := 46) rfl rfl ?_
        refine j_icmp_le dX4_bestSet_46 (t := 55) (by decide) (q := 49) rfl (fun c_46 => ?_) (fun c_46 => ?_)
        · skip
          refine j_iincN_6_4 dX4_bestSet_55 (q := 58) rfl rfl rfl ?_
          refine j_goto (q := 7) dX4_bestSet_58 (by decide) ?_
          have hj := ih (i + 1) (.int (payS t (nI (i + 1)) nf)) τ1 (by omega) hC1 hO1
          rw [show rndT t nf b (i + 1) = rndT t nf b i from if_neg (fun q => absurd q.2 (Int32.not_lt.mpr c_46))] at hj
          exact hj
        · skip
          refine j_iload dX4_bestSet_49 (q := 51) rfl rfl ?_
          refine j_istore_n_6_2 dX4_bestSet_51 (q := 52) rfl rfl rfl ?_
          refine j_iload dX4_bestSet_52 (q := 54) rfl rfl ?_
          refine j_istore_n_6_3 dX4_bestSet_54 (q := 55) rfl rfl rfl ?_
          refine j_iincN_6_4 dX4_bestSet_55 (q := 58) rfl rfl rfl ?_
          refine j_goto (q := 7) dX4_bestSet_58 (by decide) ?_
          have hj := ih (i + 1) (.int (payS t (nI (i + 1)) nf)) τ1 (by omega) hC1 hO1
          rw [show rndT t nf b (i + 1) = (i + 1, payS t (nI (i + 1)) nf) from if_pos ⟨Int32.not_lt.mp c_29, Int32.not_le.mp c_46⟩] at hj
          exact hj
theorem ct_X4_bestSet {g : GT} {σ : S_} {t : Nat → Int32} {nf : Nat} {b : Int32} (hn : t 5 = nI nf) (h7 : nf ≤ 7) (hT : TOK t 1) (hC : CW σ 8 t) : CT g 5 M_X4_bestSet [.ref 3, .int b] σ (fun r τ => r = .int (nI (rndT t nf b (2 ^ nf - 1)).1) ∧ ∀ x, x ≠ 30 → τ x = σ x) := by
  refine ct_of [.ref 3, .int b, .null, .null, .null, .null] pn_X4_bestSet rfl (Nat.le_of_ble_eq_true rfl) ?_
  refine j_iconst (v := 0) dX4_bestSet_0 (q := 1) rfl (by decide) ?_
  refine j_istore_n_6_2 dX4_bestSet_1 (q := 2) rfl rfl rfl ?_
  refine j_iconst (v := 0) dX4_bestSet_2 (q := 3) rfl (by decide) ?_
  refine j_istore_n_6_3 dX4_bestSet_3 (q := 4) rfl rfl rfl ?_
  refine j_iconst (v := 1) dX4_bestSet_4 (q := 5) rfl (by decide) ?_
  refine j_istore_6_4 dX4_bestSet_5 (q := 7) rfl rfl rfl ?_
  exact bs_loop (σ0 := σ) hn h7 hT (2 ^ nf - 1) 0 _ σ (by omega) hC (fun _ _ => rfl)
theorem ct_X7_round_no {g : GT} {σ : S_} {c y : Int32} (h : ¬ ((0 ≤ c ∧ c ≤ σ 8 4 - 1) ∧ (0 ≤ y ∧ y ≤ 1))) : CT g 2 M_X7_round [.ref 0, .int c, .int y] σ (EQ (.int (-1000000001)) (rfz σ 1)) := by
  refine ct_of [.ref 0, .int c, .int y, .null] pn_X7_round rfl (Nat.le_of_ble_eq_true rfl) ?_
  refine j_aload_n dX7_round_0 (q := 1) rfl rfl ?_
  refine j_iload_n dX7_round_1 (q := 2) rfl rfl ?_
  refine j_callVi1E (M' := M_X7_isCarrier) lk_X7_128 mv_X7_isCarrier ob_0 (by decide) (Nat.le_of_ble_eq_true rfl) dX7_round_2 (q := 5) rfl (ct_X7_isCarrier) ?_
  refine j_ifeqB dX7_round_5 (t := 17) (by decide) (q := 8) rfl (fun c_5 => ?_) (fun c_5 => ?_)
  · skip
    refine j_iload_n dX7_round_8 (q := 9) rfl rfl ?_
    refine j_iconst (v := 0) dX7_round_9 (q := 10) rfl (by decide) ?_
    refine j_iconst (v := 1) dX7_round_10 (q := 11) rfl (by decide) ?_
    refine j_callSi3E (M' := M_X7_within) lk_X7_57 ms_X7_within (by decide) (Nat.le_of_ble_eq_true rfl) dX7_round_11 (q := 14) rfl (ct_X7_within) ?_
    refine j_ifneB dX7_round_14 (t := 23) (by decide) (q := 17) rfl (fun c_14 => ?_) (fun c_14 => ?_)
    · skip
      exact absurd ⟨c_5, c_14⟩ h
    · skip
      refine j_aload_n dX7_round_17 (q := 18) rfl rfl ?_
      refine j_iconst (v := 1) dX7_round_18 (q := 19) rfl (by decide) ?_
      refine j_callVi1E (M' := M_X7_refuse) lk_X7_61 mv_X7_refuse ob_0 (by decide) (Nat.le_of_ble_eq_true rfl) dX7_round_19 (q := 22) rfl (ct_ref1) ?_
      refine j_ireti dX7_round_22 rfl ?_
      exact ⟨rfl, rfl⟩
  · skip
    refine j_aload_n dX7_round_17 (q := 18) rfl rfl ?_
    refine j_iconst (v := 1) dX7_round_18 (q := 19) rfl (by decide) ?_
    refine j_callVi1E (M' := M_X7_refuse) lk_X7_61 mv_X7_refuse ob_0 (by decide) (Nat.le_of_ble_eq_true rfl) dX7_round_19 (q := 22) rfl (ct_ref1) ?_
    refine j_ireti dX7_round_22 rfl ?_
    exact ⟨rfl, rfl⟩
theorem ct_X7_odds_no {g : GT} {σ : S_} {c y : Int32} (h : ¬ ((0 ≤ c ∧ c ≤ σ 8 4 - 1) ∧ (0 ≤ y ∧ y ≤ 1))) : CT g 2 M_X7_odds [.ref 0, .int c, .int y] σ (EQ (.int (-1000000001)) (rfz σ 1)) := by
  refine ct_of [.ref 0, .int c, .int y, .null, .null, .null] pn_X7_odds rfl (Nat.le_of_ble_eq_true rfl) ?_
  refine j_aload_n dX7_odds_0 (q := 1) rfl rfl ?_
  refine j_iload_n dX7_odds_1 (q := 2) rfl rfl ?_
  refine j_callVi1E (M' := M_X7_isCarrier) lk_X7_128 mv_X7_isCarrier ob_0 (by decide) (Nat.le_of_ble_eq_true rfl) dX7_odds_2 (q := 5) rfl (ct_X7_isCarrier) ?_
  refine j_ifeqB dX7_odds_5 (t := 17) (by decide) (q := 8) rfl (fun c_5 => ?_) (fun c_5 => ?_)
  · skip
    refine j_iload_n dX7_odds_8 (q := 9) rfl rfl ?_
    refine j_iconst (v := 0) dX7_odds_9 (q := 10) rfl (by decide) ?_
    refine j_iconst (v := 1) dX7_odds_10 (q := 11) rfl (by decide) ?_
    refine j_callSi3E (M' := M_X7_within) lk_X7_57 ms_X7_within (by decide) (Nat.le_of_ble_eq_true rfl) dX7_odds_11 (q := 14) rfl (ct_X7_within) ?_
    refine j_ifneB dX7_odds_14 (t := 23) (by decide) (q := 17) rfl (fun c_14 => ?_) (fun c_14 => ?_)
    · skip
      exact absurd ⟨c_5, c_14⟩ h
    · skip
      refine j_aload_n dX7_odds_17 (q := 18) rfl rfl ?_
      refine j_iconst (v := 1) dX7_odds_18 (q := 19) rfl (by decide) ?_
      refine j_callVi1E (M' := M_X7_refuse) lk_X7_61 mv_X7_refuse ob_0 (by decide) (Nat.le_of_ble_eq_true rfl) dX7_odds_19 (q := 22) rfl (ct_ref1) ?_
      refine j_ireti dX7_odds_22 rfl ?_
      exact ⟨rfl, rfl⟩
  · skip
    refine j_aload_n dX7_odds_17 (q := 18) rfl rfl ?_
    refine j_iconst (v := 1) dX7_odds_18 (q := 19) rfl (by decide) ?_
    refine j_callVi1E (M' := M_X7_refuse) lk_X7_61 mv_X7_refuse ob_0 (by decide) (Nat.le_of_ble_eq_true rfl) dX7_odds_19 (q := 22) rfl (ct_ref1) ?_
    refine j_ireti dX7_odds_22 rfl ?_
    exact ⟨rfl, rfl⟩
theorem ct_X8_round_no {g : GT} {σ : S_} {c y : Int32} (h : ¬ ((0 ≤ c ∧ c ≤ σ 71 6 - 1) ∧ (0 ≤ y ∧ y ≤ 1))) : CT g 2 M_X8_round [.ref 70, .int c, .int y] σ (EQ (.int (-1000000001)) (rfm σ 1)) := by
  refine ct_of [.ref 70, .int c, .int y, .null, .null, .null, .null, .null] pn_X8_round rfl (Nat.le_of_ble_eq_true rfl) ?_
  refine j_aload_n dX8_round_0 (q := 1) rfl rfl ?_
  refine j_iload_n dX8_round_1 (q := 2) rfl rfl ?_
  refine j_callVi1E (M' := M_X8_isCarrier) lk_X8_175 mv_X8_isCarrier ob_70 (by decide) (Nat.le_of_ble_eq_true rfl) dX8_round_2 (q := 5) rfl (ct_X8_isCarrier) ?_
  refine j_ifeqB dX8_round_5 (t := 17) (by decide) (q := 8) rfl (fun c_5 => ?_) (fun c_5 => ?_)
  · skip
    refine j_iload_n dX8_round_8 (q := 9) rfl rfl ?_
    refine j_iconst (v := 0) dX8_round_9 (q := 10) rfl (by decide) ?_
    refine j_iconst (v := 1) dX8_round_10 (q := 11) rfl (by decide) ?_
    refine j_callSi3E (M' := M_X8_in) lk_X8_59 ms_X8_in (by decide) (Nat.le_of_ble_eq_true rfl) dX8_round_11 (q := 14) rfl (ct_X8_in) ?_
    refine j_ifneB dX8_round_14 (t := 23) (by decide) (q := 17) rfl (fun c_14 => ?_) (fun c_14 => ?_)
    · skip
      exact absurd ⟨c_5, c_14⟩ h
    · skip
      refine j_aload_n dX8_round_17 (q := 18) rfl rfl ?_
      refine j_iconst (v := 1) dX8_round_18 (q := 19) rfl (by decide) ?_
      refine j_callVi1E (M' := M_X8_error) lk_X8_63 mv_X8_error ob_70 (by decide) (Nat.le_of_ble_eq_true rfl) dX8_round_19 (q := 22) rfl (ct_err1) ?_
      refine j_ireti dX8_round_22 rfl ?_
      exact ⟨rfl, rfl⟩
  · skip
    refine j_aload_n dX8_round_17 (q := 18) rfl rfl ?_
    refine j_iconst (v := 1) dX8_round_18 (q := 19) rfl (by decide) ?_
    refine j_callVi1E (M' := M_X8_error) lk_X8_63 mv_X8_error ob_70 (by decide) (Nat.le_of_ble_eq_true rfl) dX8_round_19 (q := 22) rfl (ct_err1) ?_
    refine j_ireti dX8_round_22 rfl ?_
    exact ⟨rfl, rfl⟩
theorem ct_X8_odds_no {g : GT} {σ : S_} {c y : Int32} (h : ¬ ((0 ≤ c ∧ c ≤ σ 71 6 - 1) ∧ (0 ≤ y ∧ y ≤ 1))) : CT g 2 M_X8_odds [.ref 70, .int c, .int y] σ (EQ (.int (-1000000001)) (rfm σ 1)) := by
  refine ct_of [.ref 70, .int c, .int y, .null, .null, .null] pn_X8_odds rfl (Nat.le_of_ble_eq_true rfl) ?_
  refine j_aload_n dX8_odds_0 (q := 1) rfl rfl ?_
  refine j_iload_n dX8_odds_1 (q := 2) rfl rfl ?_
  refine j_callVi1E (M' := M_X8_isCarrier) lk_X8_175 mv_X8_isCarrier ob_70 (by decide) (Nat.le_of_ble_eq_true rfl) dX8_odds_2 (q := 5) rfl (ct_X8_isCarrier) ?_
  refine j_ifeqB dX8_odds_5 (t := 17) (by decide) (q := 8) rfl (fun c_5 => ?_) (fun c_5 => ?_)
  · skip
    refine j_iload_n dX8_odds_8 (q := 9) rfl rfl ?_
    refine j_iconst (v := 0) dX8_odds_9 (q := 10) rfl (by decide) ?_
    refine j_iconst (v := 1) dX8_odds_10 (q := 11) rfl (by decide) ?_
    refine j_callSi3E (M' := M_X8_in) lk_X8_59 ms_X8_in (by decide) (Nat.le_of_ble_eq_true rfl) dX8_odds_11 (q := 14) rfl (ct_X8_in) ?_
    refine j_ifneB dX8_odds_14 (t := 23) (by decide) (q := 17) rfl (fun c_14 => ?_) (fun c_14 => ?_)
    · skip
      exact absurd ⟨c_5, c_14⟩ h
    · skip
      refine j_aload_n dX8_odds_17 (q := 18) rfl rfl ?_
      refine j_iconst (v := 1) dX8_odds_18 (q := 19) rfl (by decide) ?_
      refine j_callVi1E (M' := M_X8_error) lk_X8_63 mv_X8_error ob_70 (by decide) (Nat.le_of_ble_eq_true rfl) dX8_odds_19 (q := 22) rfl (ct_err1) ?_
      refine j_ireti dX8_odds_22 rfl ?_
      exact ⟨rfl, rfl⟩
  · skip
    refine j_aload_n dX8_odds_17 (q := 18) rfl rfl ?_
    refine j_iconst (v := 1) dX8_odds_18 (q := 19) rfl (by decide) ?_
    refine j_callVi1E (M' := M_X8_error) lk_X8_63 mv_X8_error ob_70 (by decide) (Nat.le_of_ble_eq_true rfl) dX8_odds_19 (q := 22) rfl (ct_err1) ?_
    refine j_ireti dX8_odds_22 rfl ?_
    exact ⟨rfl, rfl⟩
theorem ct_X7_round_ok {g : GT} {σ : S_} {t : Nat → Int32} {nf : Nat} (hB : BD t) (hn : t 5 = nI nf) (h7 : nf ≤ 7) (hC : CW σ 8 t) {nc c y : Nat} (hcn : t 6 = nI nc) (h4 : nc ≤ 4) (hc : c < nc) (hy : y < 2) : CT g 6 M_X7_round [.ref 0, .int (nI c), .int (nI y)] σ (fun r τ => r = .int (if y = 0 then nI (rndT t nf (t (52 + 2 * c)) (2 ^ nf - 1)).1 else (rndT t nf (t (52 + 2 * c)) (2 ^ nf - 1)).2) ∧ ∀ x, x ≠ 30 → τ x = σ x) := by
  refine ct_of [.ref 0, .int (nI c), .int (nI y), .null] pn_X7_round rfl (Nat.le_of_ble_eq_true rfl) ?_
  refine j_aload_n dX7_round_0 (q := 1) rfl rfl ?_
  refine j_iload_n dX7_round_1 (q := 2) rfl rfl ?_
  refine j_callVi1E (M' := M_X7_isCarrier) lk_X7_128 mv_X7_isCarrier ob_0 (by decide) (Nat.le_of_ble_eq_true rfl) dX7_round_2 (q := 5) rfl (ct_X7_isCarrier) ?_
  refine j_ifeqB dX7_round_5 (t := 17) (by decide) (q := 8) rfl (fun c_5 => ?_) (fun c_5 => ?_)
  · skip
    refine j_iload_n dX7_round_8 (q := 9) rfl rfl ?_
    refine j_iconst (v := 0) dX7_round_9 (q := 10) rfl (by decide) ?_
    refine j_iconst (v := 1) dX7_round_10 (q := 11) rfl (by decide) ?_
    refine j_callSi3E (M' := M_X7_within) lk_X7_57 ms_X7_within (by decide) (Nat.le_of_ble_eq_true rfl) dX7_round_11 (q := 14) rfl (ct_X7_within) ?_
    refine j_ifneB dX7_round_14 (t := 23) (by decide) (q := 17) rfl (fun c_14 => ?_) (fun c_14 => ?_)
    · skip
      refine j_aload_n dX7_round_23 (q := 24) rfl rfl ?_
      refine j_getR (r := 3) fs_X7_24 rfl rfl rfl dX7_round_24 (q := 27) rfl ?_
      refine j_aload_n dX7_round_27 (q := 28) rfl rfl ?_
      refine j_getR (r := 8) fs_X7_10 rfl rfl rfl dX7_round_28 (q := 31) rfl ?_
      refine j_getR (r := 10) fs_X7_122 rfl rfl rfl dX7_round_31 (q := 34) rfl ?_
      refine j_iload_n dX7_round_34 (q := 35) rfl rfl ?_
      refine j_ialdV rfl (by omega) (hC.at (LM_belly c (by omega))) dX7_round_35 (q := 36) rfl ?_
      refine j_callVi1 (M' := M_X4_bestSet) lk_X7_213 mv_X4_bestSet ob_3 (by decide) (Nat.le_of_ble_eq_true rfl) dX7_round_36 (q := 39) rfl (ct_X4_bestSet hn h7 hB.t1 hC) ?_
      intro x1 τ1 hz
      obtain ⟨h1, hτ1⟩ := hz
      cases h1
      have hC1 : CW τ1 8 t := hC.frame (fun c h1 h2 h3 => hτ1 _ (by omega))
      refine j_istore_n_4_3 dX7_round_39 (q := 40) rfl rfl rfl ?_
      refine j_iload_n dX7_round_40 (q := 41) rfl rfl ?_
      refine j_if_neN (by omega) dX7_round_41 (t := 48) (by decide) (q := 44) rfl (fun c_41 => ?_) (fun c_41 => ?_)
      · skip
        refine j_aload_n dX7_round_48 (q := 49) rfl rfl ?_
        refine j_getR (r := 8) fs_X7_10 rfl rfl rfl dX7_round_49 (q := 52) rfl ?_
        refine j_iload_n dX7_round_52 (q := 53) rfl rfl ?_
        refine j_callVi1 (M' := M_X6_payOfSet) lk_X7_216 mv_X6_payOfSet ob_8 (by decide) (Nat.le_of_ble_eq_true rfl) dX7_round_53 (q := 56) rfl (ct_X6_payOfSet hC1 hn h7 hB.t1) ?_
        intro x2 τ2 hz
        obtain ⟨h2, hτ2⟩ := hz
        cases h2
        refine j_ireti dX7_round_56 rfl ?_
        exact ⟨congrArg Value.int (by rw [if_neg c_41]; exact (rnd_snd (Pf := fun n => payS t (nI n) nf) (payS0 nf h7) _).symm), fun x hx => (hτ2 x hx).trans (hτ1 x hx)⟩
      · skip
        refine j_iload_n dX7_round_44 (q := 45) rfl rfl ?_
        refine j_goto (q := 56) dX7_round_45 (by decide) ?_
        refine j_ireti dX7_round_56 rfl ?_
        exact ⟨congrArg Value.int (by rw [if_pos c_41]), hτ1⟩
    · skip
      exact absurd (inK (b := 1) (by omega) (by decide)) c_14
  · skip
    exact absurd (inF hc h4 ((hC.at LM_carriers).trans hcn)) c_5
theorem gcd1 {a b : Nat} (hb : 0 < b) : 1 ≤ Nat.gcd b a := Nat.gcd_pos_of_pos_left a hb
theorem max1 {d : Nat} (h : 1 ≤ d) (h2 : d < 2 ^ 31) : (if (1 : Int32) < nI d then nI d else 1) = nI d := by
  by_cases e : d = 1
  · subst e; rfl
  · exact if_pos ((nI_lt_iff (a := 1) (by decide) h2).mpr (by omega))
theorem cd_loop {g : GT} {σ : S_} {v0 v1 : Int32} {Z : Value → S_ → Prop} : ∀ (k i a b : Nat) (v5 : Value), i + k = 100 → a < 128 → b < 128 → Z (.int (nI (euc k a b))) σ → J g 0 M_X7_commonDivisor Z 7 [.int v0, .int v1, .int (nI a), .int (nI b), .int (nI i), v5] [] σ := by
  intro k
  induction k with
  | zero =>
    intro i a b v5 hik ha hb hZ
    refine j_iload dX7_commonDivisor_7 (q := 9) rfl rfl ?_
    refine j_bipush (v := 100) dX7_commonDivisor_9 (q := 11) rfl (by decide) ?_
    refine j_icmp_geN (b := 100) (by omega) (by omega) dX7_commonDivisor_11 (t := 34) (by decide) (q := 14) rfl (fun c_11 => ?_) (fun c_11 => ?_)
    · skip
      refine j_iload_n dX7_commonDivisor_34 (q := 35) rfl rfl ?_
      refine j_ireti dX7_commonDivisor_35 rfl ?_
      exact hZ
    · skip
      omega
  | succ k ih =>
    intro i a b v5 hik ha hb hZ
    refine j_iload dX7_commonDivisor_7 (q := 9) rfl rfl ?_
    refine j_bipush (v := 100) dX7_commonDivisor_9 (q := 11) rfl (by decide) ?_
    refine j_icmp_geN (b := 100) (by omega) (by omega) dX7_commonDivisor_11 (t := 34) (by decide) (q := 14) rfl (fun c_11 => ?_) (fun c_11 => ?_)
    · skip
      omega
    · skip
      refine j_iload_n dX7_commonDivisor_14 (q := 15) rfl rfl ?_
      refine j_if_leN (by omega) dX7_commonDivisor_15 (t := 34) (by decide) (q := 18) rfl (fun c_15 => ?_) (fun c_15 => ?_)
      · skip
        refine j_iload_n dX7_commonDivisor_34 (q := 35) rfl rfl ?_
        refine j_ireti dX7_commonDivisor_35 rfl ?_
        rw [show euc (k + 1) a b = a from if_neg (by omega)] at hZ
        exact hZ
      · skip
        refine j_iload_n dX7_commonDivisor_18 (q := 19) rfl rfl ?_
        refine j_iload_n dX7_commonDivisor_19 (q := 20) rfl rfl ?_
        refine j_iremN (by omega) (by omega) (by omega) dX7_commonDivisor_20 (q := 21) rfl ?_
        refine j_istore_6_5 dX7_commonDivisor_21 (q := 23) rfl rfl rfl ?_
        refine j_iload_n dX7_commonDivisor_23 (q := 24) rfl rfl ?_
        refine j_istore_n_6_2 dX7_commonDivisor_24 (q := 25) rfl rfl rfl ?_
        refine j_iload dX7_commonDivisor_25 (q := 27) rfl rfl ?_
        refine j_istore_n_6_3 dX7_commonDivisor_27 (q := 28) rfl rfl rfl ?_
        refine j_iincN_6_4 dX7_commonDivisor_28 (q := 31) rfl rfl rfl ?_
        refine j_goto (q := 7) dX7_commonDivisor_31 (by decide) ?_
        rw [show euc (k + 1) a b = euc k b (a % b) from if_pos (by omega)] at hZ
        exact ih (i + 1) b (a % b) _ (by omega) hb (Nat.lt_trans (Nat.mod_lt _ (by omega)) hb) hZ
theorem ct_X7_commonDivisor {g : GT} {σ : S_} {a b : Nat} (ha : a < 128) (hb : b < 128) : CT g 0 M_X7_commonDivisor [.int (nI a), .int (nI b)] σ (EQ (.int (nI (Nat.gcd b a))) σ) := by
  refine ct_of [.int (nI a), .int (nI b), .null, .null, .null, .null] pn_X7_commonDivisor rfl (Nat.le_of_ble_eq_true rfl) ?_
  refine j_iload_n dX7_commonDivisor_0 (q := 1) rfl rfl ?_
  refine j_istore_n_6_2 dX7_commonDivisor_1 (q := 2) rfl rfl rfl ?_
  refine j_iload_n dX7_commonDivisor_2 (q := 3) rfl rfl ?_
  refine j_istore_n_6_3 dX7_commonDivisor_3 (q := 4) rfl rfl rfl ?_
  refine j_iconst (v := 0) dX7_commonDivisor_4 (q := 5) rfl (by decide) ?_
  refine j_istore_6_4 dX7_commonDivisor_5 (q := 7) rfl rfl rfl ?_
  exact cd_loop 100 0 a b _ rfl ha hb ⟨by rw [euc_gcd a ha b hb], rfl⟩
theorem ct_X7_odds_st {g : GT} {σ : S_} {t : Nat → Int32} {nf : Nat} (hB : BD t) (hn : t 5 = nI nf) (h7 : nf ≤ 7) (hC : CW σ 8 t) {nc c y : Nat} (hcn : t 6 = nI nc) (h4 : nc ≤ 4) (hc : c < nc) (hy : y < 2) (h0 : nf = 0) : CT g 2 M_X7_odds [.ref 0, .int (nI c), .int (nI y)] σ (EQ (.int (-1000000003)) (rfz σ 3)) := by
  refine ct_of [.ref 0, .int (nI c), .int (nI y), .null, .null, .null] pn_X7_odds rfl (Nat.le_of_ble_eq_true rfl) ?_
  refine j_aload_n dX7_odds_0 (q := 1) rfl rfl ?_
  refine j_iload_n dX7_odds_1 (q := 2) rfl rfl ?_
  refine j_callVi1E (M' := M_X7_isCarrier) lk_X7_128 mv_X7_isCarrier ob_0 (by decide) (Nat.le_of_ble_eq_true rfl) dX7_odds_2 (q := 5) rfl (ct_X7_isCarrier) ?_
  refine j_ifeqB dX7_odds_5 (t := 17) (by decide) (q := 8) rfl (fun c_5 => ?_) (fun c_5 => ?_)
  · skip
    refine j_iload_n dX7_odds_8 (q := 9) rfl rfl ?_
    refine j_iconst (v := 0) dX7_odds_9 (q := 10) rfl (by decide) ?_
    refine j_iconst (v := 1) dX7_odds_10 (q := 11) rfl (by decide) ?_
    refine j_callSi3E (M' := M_X7_within) lk_X7_57 ms_X7_within (by decide) (Nat.le_of_ble_eq_true rfl) dX7_odds_11 (q := 14) rfl (ct_X7_within) ?_
    refine j_ifneB dX7_odds_14 (t := 23) (by decide) (q := 17) rfl (fun c_14 => ?_) (fun c_14 => ?_)
    · skip
      refine j_aload_n dX7_odds_23 (q := 24) rfl rfl ?_
      refine j_getR (r := 8) fs_X7_10 rfl rfl rfl dX7_odds_24 (q := 27) rfl ?_
      refine j_getIV fs_X7_65 rfl rfl ((hC.at LM_farms).trans hn) dX7_odds_27 (q := 30) rfl ?_
      refine j_if_neN (by omega) dX7_odds_30 (t := 39) (by decide) (q := 33) rfl (fun c_30 => ?_) (fun c_30 => ?_)
      · skip
        exact absurd h0 c_30
      · skip
        refine j_aload_n dX7_odds_33 (q := 34) rfl rfl ?_
        refine j_iconst (v := 3) dX7_odds_34 (q := 35) rfl (by decide) ?_
        refine j_callVi1E (M' := M_X7_refuse) lk_X7_61 mv_X7_refuse ob_0 (by decide) (Nat.le_of_ble_eq_true rfl) dX7_odds_35 (q := 38) rfl (ct_ref3) ?_
        refine j_ireti dX7_odds_38 rfl ?_
        exact ⟨rfl, rfl⟩
    · skip
      exact absurd (inK (b := 1) (by omega) (by decide)) c_14
  · skip
    exact absurd (inF hc h4 ((hC.at LM_carriers).trans hcn)) c_5
theorem ct_X7_odds_ok {g : GT} {σ : S_} {t : Nat → Int32} {nf : Nat} (hB : BD t) (hn : t 5 = nI nf) (h7 : nf ≤ 7) (hC : CW σ 8 t) {nc c y : Nat} (hcn : t 6 = nI nc) (h4 : nc ≤ 4) (hc : c < nc) (hy : y < 2) (h0 : 0 < nf) : CT g 2 M_X7_odds [.ref 0, .int (nI c), .int (nI y)] σ (EQ (.int ((if y = 0 then nI (pcn (fun n => decide (dryS t (nI n) nf ≤ t (52 + 2 * c))) (2 ^ nf - 1)) else nI (2 ^ nf - 1)) / nI (Nat.gcd (2 ^ nf - 1) (pcn (fun n => decide (dryS t (nI n) nf ≤ t (52 + 2 * c))) (2 ^ nf - 1))))) σ) := by
  refine ct_of [.ref 0, .int (nI c), .int (nI y), .null, .null, .null] pn_X7_odds rfl (Nat.le_of_ble_eq_true rfl) ?_
  refine j_aload_n dX7_odds_0 (q := 1) rfl rfl ?_
  refine j_iload_n dX7_odds_1 (q := 2) rfl rfl ?_
  refine j_callVi1E (M' := M_X7_isCarrier) lk_X7_128 mv_X7_isCarrier ob_0 (by decide) (Nat.le_of_ble_eq_true rfl) dX7_odds_2 (q := 5) rfl (ct_X7_isCarrier) ?_
  refine j_ifeqB dX7_odds_5 (t := 17) (by decide) (q := 8) rfl (fun c_5 => ?_) (fun c_5 => ?_)
  · skip
    refine j_iload_n dX7_odds_8 (q := 9) rfl rfl ?_
    refine j_iconst (v := 0) dX7_odds_9 (q := 10) rfl (by decide) ?_
    refine j_iconst (v := 1) dX7_odds_10 (q := 11) rfl (by decide) ?_
    refine j_callSi3E (M' := M_X7_within) lk_X7_57 ms_X7_within (by decide) (Nat.le_of_ble_eq_true rfl) dX7_odds_11 (q := 14) rfl (ct_X7_within) ?_
    refine j_ifneB dX7_odds_14 (t := 23) (by decide) (q := 17) rfl (fun c_14 => ?_) (fun c_14 => ?_)
    · skip
      refine j_aload_n dX7_odds_23 (q := 24) rfl rfl ?_
      refine j_getR (r := 8) fs_X7_10 rfl rfl rfl dX7_odds_24 (q := 27) rfl ?_
      refine j_getIV fs_X7_65 rfl rfl ((hC.at LM_farms).trans hn) dX7_odds_27 (q := 30) rfl ?_
      refine j_if_neN (by omega) dX7_odds_30 (t := 39) (by decide) (q := 33) rfl (fun c_30 => ?_) (fun c_30 => ?_)
      · skip
        refine j_aload_n dX7_odds_39 (q := 40) rfl rfl ?_
        refine j_getR (r := 3) fs_X7_24 rfl rfl rfl dX7_odds_40 (q := 43) rfl ?_
        have h127 := p127 h7
        have hp2 : 2 ≤ 2 ^ nf := by obtain ⟨j, rfl⟩ : ∃ j, nf = j + 1 := ⟨nf - 1, by omega⟩; rw [Nat.pow_succ]; have := Nat.two_pow_pos j; omega
        have hcl : pcn (fun n => decide (dryS t (nI n) nf ≤ t (52 + 2 * c))) (2 ^ nf - 1) ≤ 2 ^ nf - 1 := pcn_le _
        have hg1 : 1 ≤ Nat.gcd (2 ^ nf - 1) (pcn (fun n => decide (dryS t (nI n) nf ≤ t (52 + 2 * c))) (2 ^ nf - 1)) := gcd1 (by omega)
        have hg2 : Nat.gcd (2 ^ nf - 1) (pcn (fun n => decide (dryS t (nI n) nf ≤ t (52 + 2 * c))) (2 ^ nf - 1)) ≤ 2 ^ nf - 1 := Nat.gcd_le_left _ (by omega)
        refine j_aload_n dX7_odds_43 (q := 44) rfl rfl ?_
        refine j_getR (r := 8) fs_X7_10 rfl rfl rfl dX7_odds_44 (q := 47) rfl ?_
        refine j_getR (r := 10) fs_X7_122 rfl rfl rfl dX7_odds_47 (q := 50) rfl ?_
        refine j_iload_n dX7_odds_50 (q := 51) rfl rfl ?_
        refine j_ialdV rfl (by omega) (hC.at (LM_belly c (by omega))) dX7_odds_51 (q := 52) rfl ?_
        refine j_callVi1E (M' := M_X4_setsWithin) lk_X7_225 mv_X4_setsWithin ob_3 (by decide) (Nat.le_of_ble_eq_true rfl) dX7_odds_52 (q := 55) rfl (ct_X4_setsWithin hn h7 hC) ?_
        refine j_istore_n_6_3 dX7_odds_55 (q := 56) rfl rfl rfl ?_
        refine j_aload_n dX7_odds_56 (q := 57) rfl rfl ?_
        refine j_getR (r := 8) fs_X7_10 rfl rfl rfl dX7_odds_57 (q := 60) rfl ?_
        refine j_callVi0E (M' := M_X6_allFarms) lk_X7_137 mv_X6_allFarms ob_8 (by decide) (Nat.le_of_ble_eq_true rfl) dX7_odds_60 (q := 63) rfl (ct_X6_allFarms) ?_
        rw [allN hC hn h7]
        refine j_istore_6_4 dX7_odds_63 (q := 65) rfl rfl rfl ?_
        refine j_iload_n dX7_odds_65 (q := 66) rfl rfl ?_
        refine j_iload dX7_odds_66 (q := 68) rfl rfl ?_
        refine j_callSi2E (M' := M_X7_commonDivisor) lk_X7_228 ms_X7_commonDivisor (by decide) (Nat.le_of_ble_eq_true rfl) dX7_odds_68 (q := 71) rfl (ct_X7_commonDivisor (by omega) (by omega)) ?_
        refine j_istore_6_5 dX7_odds_71 (q := 73) rfl rfl rfl ?_
        refine j_iload_n dX7_odds_73 (q := 74) rfl rfl ?_
        refine j_if_neN (by omega) dX7_odds_74 (t := 81) (by decide) (q := 77) rfl (fun c_74 => ?_) (fun c_74 => ?_)
        · skip
          refine j_iload dX7_odds_81 (q := 83) rfl rfl ?_
          refine j_iconst (v := 1) dX7_odds_83 (q := 84) rfl (by decide) ?_
          refine j_iload dX7_odds_84 (q := 86) rfl rfl ?_
          refine j_mmax lkm_X7_231 ma_max_s ma_i ma_max_c (by decide) (Nat.le_of_ble_eq_true rfl) dX7_odds_86 (q := 89) rfl ?_
          rw [max1 hg1 (by omega)]
          refine j_idiv dX7_odds_89 (q := 90) rfl (fun e => by have := (nI_eq (b := 0) (by omega) (by decide)).mp e; omega) ?_
          refine j_ireti dX7_odds_90 rfl ?_
          exact ⟨congrArg Value.int (by rw [if_neg c_74]), rfl⟩
        · skip
          refine j_iload_n dX7_odds_77 (q := 78) rfl rfl ?_
          refine j_goto (q := 83) dX7_odds_78 (by decide) ?_
          refine j_iconst (v := 1) dX7_odds_83 (q := 84) rfl (by decide) ?_
          refine j_iload dX7_odds_84 (q := 86) rfl rfl ?_
          refine j_mmax lkm_X7_231 ma_max_s ma_i ma_max_c (by decide) (Nat.le_of_ble_eq_true rfl) dX7_odds_86 (q := 89) rfl ?_
          rw [max1 hg1 (by omega)]
          refine j_idiv dX7_odds_89 (q := 90) rfl (fun e => by have := (nI_eq (b := 0) (by omega) (by decide)).mp e; omega) ?_
          refine j_ireti dX7_odds_90 rfl ?_
          exact ⟨congrArg Value.int (by rw [if_pos c_74]), rfl⟩
      · skip
        omega
    · skip
      exact absurd (inK (b := 1) (by omega) (by decide)) c_14
  · skip
    exact absurd (inF hc h4 ((hC.at LM_carriers).trans hcn)) c_5
theorem ct_X7_whose_no {g : GT} {σ : S_} {v y : Int32} (h : ¬ ((¬ v < 0) ∧ (0 ≤ y ∧ y ≤ 1))) : CT g 2 M_X7_whose [.ref 0, .int v, .int y] σ (EQ (.int (-1000000001)) (rfz σ 1)) := by
  refine ct_of [.ref 0, .int v, .int y, .null] pn_X7_whose rfl (Nat.le_of_ble_eq_true rfl) ?_
  refine j_iload_n dX7_whose_0 (q := 1) rfl rfl ?_
  refine j_if_lt dX7_whose_1 (t := 13) (by decide) (q := 4) rfl (fun c_1 => ?_) (fun c_1 => ?_)
  · skip
    refine j_aload_n dX7_whose_13 (q := 14) rfl rfl ?_
    refine j_iconst (v := 1) dX7_whose_14 (q := 15) rfl (by decide) ?_
    refine j_callVi1E (M' := M_X7_refuse) lk_X7_61 mv_X7_refuse ob_0 (by decide) (Nat.le_of_ble_eq_true rfl) dX7_whose_15 (q := 18) rfl (ct_ref1) ?_
    refine j_ireti dX7_whose_18 rfl ?_
    exact ⟨rfl, rfl⟩
  · skip
    refine j_iload_n dX7_whose_4 (q := 5) rfl rfl ?_
    refine j_iconst (v := 0) dX7_whose_5 (q := 6) rfl (by decide) ?_
    refine j_iconst (v := 1) dX7_whose_6 (q := 7) rfl (by decide) ?_
    refine j_callSi3E (M' := M_X7_within) lk_X7_57 ms_X7_within (by decide) (Nat.le_of_ble_eq_true rfl) dX7_whose_7 (q := 10) rfl (ct_X7_within) ?_
    refine j_ifneB dX7_whose_10 (t := 19) (by decide) (q := 13) rfl (fun c_10 => ?_) (fun c_10 => ?_)
    · skip
      exact absurd ⟨c_1, c_10⟩ h
    · skip
      refine j_aload_n dX7_whose_13 (q := 14) rfl rfl ?_
      refine j_iconst (v := 1) dX7_whose_14 (q := 15) rfl (by decide) ?_
      refine j_callVi1E (M' := M_X7_refuse) lk_X7_61 mv_X7_refuse ob_0 (by decide) (Nat.le_of_ble_eq_true rfl) dX7_whose_15 (q := 18) rfl (ct_ref1) ?_
      refine j_ireti dX7_whose_18 rfl ?_
      exact ⟨rfl, rfl⟩
theorem ct_X8_whose_no {g : GT} {σ : S_} {v y : Int32} (h : ¬ ((¬ v < 0) ∧ (0 ≤ y ∧ y ≤ 1))) : CT g 2 M_X8_whose [.ref 70, .int v, .int y] σ (EQ (.int (-1000000001)) (rfm σ 1)) := by
  refine ct_of [.ref 70, .int v, .int y, .null, .null, .null, .null] pn_X8_whose rfl (Nat.le_of_ble_eq_true rfl) ?_
  refine j_iload_n dX8_whose_0 (q := 1) rfl rfl ?_
  refine j_if_lt dX8_whose_1 (t := 13) (by decide) (q := 4) rfl (fun c_1 => ?_) (fun c_1 => ?_)
  · skip
    refine j_aload_n dX8_whose_13 (q := 14) rfl rfl ?_
    refine j_iconst (v := 1) dX8_whose_14 (q := 15) rfl (by decide) ?_
    refine j_callVi1E (M' := M_X8_error) lk_X8_63 mv_X8_error ob_70 (by decide) (Nat.le_of_ble_eq_true rfl) dX8_whose_15 (q := 18) rfl (ct_err1) ?_
    refine j_ireti dX8_whose_18 rfl ?_
    exact ⟨rfl, rfl⟩
  · skip
    refine j_iload_n dX8_whose_4 (q := 5) rfl rfl ?_
    refine j_iconst (v := 0) dX8_whose_5 (q := 6) rfl (by decide) ?_
    refine j_iconst (v := 1) dX8_whose_6 (q := 7) rfl (by decide) ?_
    refine j_callSi3E (M' := M_X8_in) lk_X8_59 ms_X8_in (by decide) (Nat.le_of_ble_eq_true rfl) dX8_whose_7 (q := 10) rfl (ct_X8_in) ?_
    refine j_ifneB dX8_whose_10 (t := 19) (by decide) (q := 13) rfl (fun c_10 => ?_) (fun c_10 => ?_)
    · skip
      exact absurd ⟨c_1, c_10⟩ h
    · skip
      refine j_aload_n dX8_whose_13 (q := 14) rfl rfl ?_
      refine j_iconst (v := 1) dX8_whose_14 (q := 15) rfl (by decide) ?_
      refine j_callVi1E (M' := M_X8_error) lk_X8_63 mv_X8_error ob_70 (by decide) (Nat.le_of_ble_eq_true rfl) dX8_whose_15 (q := 18) rfl (ct_err1) ?_
      refine j_ireti dX8_whose_18 rfl ?_
      exact ⟨rfl, rfl⟩
theorem ct_X7_whose_0 {g : GT} {σ : S_} {t : Nat → Int32} {nf : Nat} (hB : BD t) (hn : t 5 = nI nf) (h7 : nf ≤ 7) (hC : CW σ 8 t) {v : Int32} (hv : ¬ v < 0) {y : Nat} (hy : y = 0) : CT g 2 M_X7_whose [.ref 0, .int v, .int (nI y)] σ (EQ (.int (nI (pcn (fun n => decide (dryS t (nI n) nf = v)) (2 ^ nf - 1)))) σ) := by
  refine ct_of [.ref 0, .int v, .int (nI y), .null] pn_X7_whose rfl (Nat.le_of_ble_eq_true rfl) ?_
  refine j_iload_n dX7_whose_0 (q := 1) rfl rfl ?_
  refine j_if_lt dX7_whose_1 (t := 13) (by decide) (q := 4) rfl (fun c_1 => ?_) (fun c_1 => ?_)
  · skip
    exact absurd c_1 hv
  · skip
    refine j_iload_n dX7_whose_4 (q := 5) rfl rfl ?_
    refine j_iconst (v := 0) dX7_whose_5 (q := 6) rfl (by decide) ?_
    refine j_iconst (v := 1) dX7_whose_6 (q := 7) rfl (by decide) ?_
    refine j_callSi3E (M' := M_X7_within) lk_X7_57 ms_X7_within (by decide) (Nat.le_of_ble_eq_true rfl) dX7_whose_7 (q := 10) rfl (ct_X7_within) ?_
    refine j_ifneB dX7_whose_10 (t := 19) (by decide) (q := 13) rfl (fun c_10 => ?_) (fun c_10 => ?_)
    · skip
      refine j_iload_n dX7_whose_19 (q := 20) rfl rfl ?_
      refine j_if_neN (by omega) dX7_whose_20 (t := 32) (by decide) (q := 23) rfl (fun c_20 => ?_) (fun c_20 => ?_)
      · skip
        exact absurd hy c_20
      · skip
        refine j_aload_n dX7_whose_23 (q := 24) rfl rfl ?_
        refine j_getR (r := 3) fs_X7_24 rfl rfl rfl dX7_whose_24 (q := 27) rfl ?_
        refine j_iload_n dX7_whose_27 (q := 28) rfl rfl ?_
        refine j_callVi1E (M' := M_X4_setsOf) lk_X7_236 mv_X4_setsOf ob_3 (by decide) (Nat.le_of_ble_eq_true rfl) dX7_whose_28 (q := 31) rfl (ct_X4_setsOf hn h7 hC) ?_
        refine j_ireti dX7_whose_31 rfl ?_
        exact ⟨rfl, rfl⟩
    · skip
      exact absurd (inK (b := 1) (by omega) (by decide)) c_10
theorem ct_X7_whose_1 {g : GT} {σ : S_} {t : Nat → Int32} {nf : Nat} (hB : BD t) (hn : t 5 = nI nf) (h7 : nf ≤ 7) (hC : CW σ 8 t) {v : Int32} (hv : ¬ v < 0) {y : Nat} (hy : y = 1) : CT g 2 M_X7_whose [.ref 0, .int v, .int (nI y)] σ (if fstQ (fun n => decide (dryS t (nI n) nf = v)) (2 ^ nf - 1) 1 = 0 then EQ (.int (-1000000002)) (rfz σ 2) else EQ (.int (nI (fstQ (fun n => decide (dryS t (nI n) nf = v)) (2 ^ nf - 1) 1))) σ) := by
  have h127 := p127 h7
  have hle := fstQ_le (Q := fun n => decide (dryS t (nI n) nf = v)) (2 ^ nf - 1) 1
  refine ct_of [.ref 0, .int v, .int (nI y), .null] pn_X7_whose rfl (Nat.le_of_ble_eq_true rfl) ?_
  refine j_iload_n dX7_whose_0 (q := 1) rfl rfl ?_
  refine j_if_lt dX7_whose_1 (t := 13) (by decide) (q := 4) rfl (fun c_1 => ?_) (fun c_1 => ?_)
  · skip
    exact absurd c_1 hv
  · skip
    refine j_iload_n dX7_whose_4 (q := 5) rfl rfl ?_
    refine j_iconst (v := 0) dX7_whose_5 (q := 6) rfl (by decide) ?_
    refine j_iconst (v := 1) dX7_whose_6 (q := 7) rfl (by decide) ?_
    refine j_callSi3E (M' := M_X7_within) lk_X7_57 ms_X7_within (by decide) (Nat.le_of_ble_eq_true rfl) dX7_whose_7 (q := 10) rfl (ct_X7_within) ?_
    refine j_ifneB dX7_whose_10 (t := 19) (by decide) (q := 13) rfl (fun c_10 => ?_) (fun c_10 => ?_)
    · skip
      refine j_iload_n dX7_whose_19 (q := 20) rfl rfl ?_
      refine j_if_neN (by omega) dX7_whose_20 (t := 32) (by decide) (q := 23) rfl (fun c_20 => ?_) (fun c_20 => ?_)
      · skip
        refine j_aload_n dX7_whose_32 (q := 33) rfl rfl ?_
        refine j_getR (r := 3) fs_X7_24 rfl rfl rfl dX7_whose_33 (q := 36) rfl ?_
        refine j_iload_n dX7_whose_36 (q := 37) rfl rfl ?_
        refine j_callVi1E (M' := M_X4_leastSetOf) lk_X7_239 mv_X4_leastSetOf ob_3 (by decide) (Nat.le_of_ble_eq_true rfl) dX7_whose_37 (q := 40) rfl (ct_X4_leastSetOf hn h7 hC) ?_
        refine j_istore_n_4_3 dX7_whose_40 (q := 41) rfl rfl rfl ?_
        refine j_iload_n dX7_whose_41 (q := 42) rfl rfl ?_
        refine j_if_neN (by omega) dX7_whose_42 (t := 53) (by decide) (q := 45) rfl (fun c_42 => ?_) (fun c_42 => ?_)
        · skip
          refine j_iload_n dX7_whose_53 (q := 54) rfl rfl ?_
          refine j_ireti dX7_whose_54 rfl ?_
          rw [if_neg c_42]
          exact ⟨rfl, rfl⟩
        · skip
          refine j_aload_n dX7_whose_45 (q := 46) rfl rfl ?_
          refine j_iconst (v := 2) dX7_whose_46 (q := 47) rfl (by decide) ?_
          refine j_callVi1E (M' := M_X7_refuse) lk_X7_61 mv_X7_refuse ob_0 (by decide) (Nat.le_of_ble_eq_true rfl) dX7_whose_47 (q := 50) rfl (ct_ref2) ?_
          refine j_goto (q := 54) dX7_whose_50 (by decide) ?_
          refine j_ireti dX7_whose_54 rfl ?_
          rw [if_pos c_42]
          exact ⟨rfl, rfl⟩
      · skip
        omega
    · skip
      exact absurd (inK (b := 1) (by omega) (by decide)) c_10
