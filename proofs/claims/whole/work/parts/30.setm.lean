theorem j_wk {g : GT} {d : Nat} {M : MM} {Z : Value → S_ → Prop} {pc : Nat} {ls st : List Value} {σ : S_} (h : J g d M Z pc ls st σ) : J g d M Z pc ls st σ := h
theorem dv_loop {g : GT} {σ : S_} {v0 v1 : Int32} {Z : Value → S_ → Prop} : ∀ (b a : Nat) (v4 : Value), a < 2 ^ 30 → b < 2 ^ 30 → Z (.int (nI (Nat.gcd b a))) σ → J g 0 M_X8_divisor Z 4 [.int v0, .int v1, .int (nI a), .int (nI b), v4] [] σ := by
  intro b
  induction b using Nat.strongRecOn with
  | ind b ih =>
    intro a v4 ha hb hZ
    refine j_iload_n dX8_divisor_4 (q := 5) rfl rfl ?_
    refine j_if_eqN (by omega) dX8_divisor_5 (t := 21) (by decide) (q := 8) rfl (fun c_5 => ?_) (fun c_5 => ?_)
    · skip
      refine j_iload_n dX8_divisor_21 (q := 22) rfl rfl ?_
      refine j_ireti dX8_divisor_22 rfl ?_
      subst c_5
      rw [Nat.gcd_zero_left] at hZ
      exact hZ
    · skip
      refine j_iload_n dX8_divisor_8 (q := 9) rfl rfl ?_
      refine j_iload_n dX8_divisor_9 (q := 10) rfl rfl ?_
      refine j_iremN (by omega) (by omega) (by omega) dX8_divisor_10 (q := 11) rfl ?_
      refine j_istore_5_4 dX8_divisor_11 (q := 13) rfl rfl rfl ?_
      refine j_iload_n dX8_divisor_13 (q := 14) rfl rfl ?_
      refine j_istore_n_5_2 dX8_divisor_14 (q := 15) rfl rfl rfl ?_
      refine j_iload dX8_divisor_15 (q := 17) rfl rfl ?_
      refine j_istore_n_5_3 dX8_divisor_17 (q := 18) rfl rfl rfl ?_
      refine j_goto (q := 4) dX8_divisor_18 (by decide) ?_
      rw [Nat.gcd_rec] at hZ
      exact ih (a % b) (Nat.mod_lt _ (by omega)) b _ hb (Nat.lt_trans (Nat.mod_lt _ (by omega)) hb) hZ
theorem ct_X8_divisor {g : GT} {σ : S_} {a b : Nat} (ha : a < 128) (hb : b < 128) : CT g 0 M_X8_divisor [.int (nI a), .int (nI b)] σ (EQ (.int (nI (Nat.gcd b a))) σ) := by
  refine ct_of [.int (nI a), .int (nI b), .null, .null, .null] pn_X8_divisor rfl (Nat.le_of_ble_eq_true rfl) ?_
  refine j_iload_n dX8_divisor_0 (q := 1) rfl rfl ?_
  refine j_istore_n_5_2 dX8_divisor_1 (q := 2) rfl rfl rfl ?_
  refine j_iload_n dX8_divisor_2 (q := 3) rfl rfl ?_
  refine j_istore_n_5_3 dX8_divisor_3 (q := 4) rfl rfl rfl ?_
  exact dv_loop b a _ (by omega) (by omega) ⟨rfl, rfl⟩
theorem om_loop {g : GT} {σ : S_} {nf c : Nat} {v2 : Value} {Z : Value → S_ → Prop} (h5 : σ 71 5 = nI nf) (h7 : nf ≤ 7) (hc : c < 4) (hK : ∀ v5 : Value, J g 2 M_X8_odds Z 91 [.ref 70, .int (nI c), v2, .int (nI (2 ^ nf - 1)), .int (nI (pcn (fun n => decide (dryS (σ 71) (nI n) nf ≤ σ 71 (52 + 2 * c))) (2 ^ nf - 1))), v5] [] σ) : ∀ (k i : Nat), i + k = 2 ^ nf - 1 → J g 2 M_X8_odds Z 55 [.ref 70, .int (nI c), v2, .int (nI (2 ^ nf - 1)), .int (nI (pcn (fun n => decide (dryS (σ 71) (nI n) nf ≤ σ 71 (52 + 2 * c))) i)), .int (nI (i + 1))] [] σ := by
  intro k
  induction k with
  | zero =>
    intro i hik
    have h127 := p127 h7
    refine j_iload dX8_odds_55 (q := 57) rfl rfl ?_
    refine j_iload_n dX8_odds_57 (q := 58) rfl rfl ?_
    refine j_icmp_gtN (by omega) (by omega) dX8_odds_58 (t := 91) (by decide) (q := 61) rfl (fun c_58 => ?_) (fun c_58 => ?_)
    · skip
      rw [show i = 2 ^ nf - 1 by omega]
      exact hK _
    · skip
      omega
  | succ k ih =>
    intro i hik
    have h127 := p127 h7
    have hpl := pcn_le (Q := fun n => decide (dryS (σ 71) (nI n) nf ≤ σ 71 (52 + 2 * c))) i
    refine j_iload dX8_odds_55 (q := 57) rfl rfl ?_
    refine j_iload_n dX8_odds_57 (q := 58) rfl rfl ?_
    refine j_icmp_gtN (by omega) (by omega) dX8_odds_58 (t := 91) (by decide) (q := 61) rfl (fun c_58 => ?_) (fun c_58 => ?_)
    · skip
      omega
    · skip
      refine j_iload dX8_odds_61 (q := 63) rfl rfl ?_
      refine j_aload_n dX8_odds_63 (q := 64) rfl rfl ?_
      refine j_iload dX8_odds_64 (q := 66) rfl rfl ?_
      refine j_callVi1E (M' := M_X8_dryOf) lk_X8_154 mv_X8_dryOf ob_70 (by decide) (Nat.le_of_ble_eq_true rfl) dX8_odds_66 (q := 69) rfl (ct_X8_dryOf h5 h7) ?_
      refine j_aload_n dX8_odds_69 (q := 70) rfl rfl ?_
      refine j_iload_n dX8_odds_70 (q := 71) rfl rfl ?_
      refine j_callVi1E (M' := M_X8_belly) lk_X8_157 mv_X8_belly ob_70 (by decide) (Nat.le_of_ble_eq_true rfl) dX8_odds_71 (q := 74) rfl (ct_X8_belly (by omega)) ?_
      refine j_icmp_gt dX8_odds_74 (t := 81) (by decide) (q := 77) rfl (fun c_74 => ?_) (fun c_74 => ?_)
      · skip
        refine j_iconst (v := 0) dX8_odds_81 (q := 82) rfl (by decide) ?_
        refine j_iaddN (b := 0) dX8_odds_82 (q := 83) rfl ?_
        refine j_istore_6_4 dX8_odds_83 (q := 85) rfl rfl rfl ?_
        refine j_iincN_6_5 dX8_odds_85 (q := 88) rfl rfl rfl ?_
        refine j_goto (q := 55) dX8_odds_88 (by decide) ?_
        have hq : pcn (fun n => decide (dryS (σ 71) (nI n) nf ≤ σ 71 (52 + 2 * c))) (i + 1) = pcn (fun n => decide (dryS (σ 71) (nI n) nf ≤ σ 71 (52 + 2 * c))) i + 0 := by show _ + _ = _; rw [if_neg (by simp; grind)]
        have hj := ih (i + 1) (by omega)
        rw [hq] at hj
        exact hj
      · skip
        refine j_iconst (v := 1) dX8_odds_77 (q := 78) rfl (by decide) ?_
        refine j_goto (q := 82) dX8_odds_78 (by decide) ?_
        refine j_iaddN (b := 1) dX8_odds_82 (q := 83) rfl ?_
        refine j_istore_6_4 dX8_odds_83 (q := 85) rfl rfl rfl ?_
        refine j_iincN_6_5 dX8_odds_85 (q := 88) rfl rfl rfl ?_
        refine j_goto (q := 55) dX8_odds_88 (by decide) ?_
        have hq : pcn (fun n => decide (dryS (σ 71) (nI n) nf ≤ σ 71 (52 + 2 * c))) (i + 1) = pcn (fun n => decide (dryS (σ 71) (nI n) nf ≤ σ 71 (52 + 2 * c))) i + 1 := by show _ + _ = _; rw [if_pos (by simp; grind)]
        have hj := ih (i + 1) (by omega)
        rw [hq] at hj
        exact hj
theorem ct_X8_odds_st {g : GT} {σ : S_} {nf nc c y : Nat} (hn : σ 71 5 = nI nf) (h7 : nf ≤ 7) (hcn : σ 71 6 = nI nc) (h4 : nc ≤ 4) (hc : c < nc) (hy : y < 2) (h0 : nf = 0) : CT g 2 M_X8_odds [.ref 70, .int (nI c), .int (nI y)] σ (EQ (.int (-1000000003)) (rfm σ 3)) := by
  refine ct_of [.ref 70, .int (nI c), .int (nI y), .null, .null, .null] pn_X8_odds rfl (Nat.le_of_ble_eq_true rfl) ?_
  refine j_aload_n dX8_odds_0 (q := 1) rfl rfl ?_
  refine j_iload_n dX8_odds_1 (q := 2) rfl rfl ?_
  refine j_callVi1E (M' := M_X8_isCarrier) lk_X8_175 mv_X8_isCarrier ob_70 (by decide) (Nat.le_of_ble_eq_true rfl) dX8_odds_2 (q := 5) rfl (ct_X8_isCarrier) ?_
  refine j_ifeqB dX8_odds_5 (t := 17) (by decide) (q := 8) rfl (fun c_5 => ?_) (fun c_5 => ?_)
  · skip
    refine j_iload_n dX8_odds_8 (q := 9) rfl rfl ?_
    refine j_iconst (v := 0) dX8_odds_9 (q := 10) rfl (by decide) ?_
    refine j_iconst (v := 1) dX8_odds_10 (q := 11) rfl (by decide) ?_
    refine j_callSi3E (M' := M_X8_in) lk_X8_59 ms_X8_in (by decide) (Nat.le_of_ble_eq_true rfl) dX8_odds_11 (q := 14) rfl (ct_X8_in) ?_
    refine j_ifneB dX8_odds_14 (t := 23) (by decide) (q := 17) rfl (fun c_14 => ?_) (fun c_14 => ?_)
    · skip
      refine j_aload_n dX8_odds_23 (q := 24) rfl rfl ?_
      refine j_getR (r := 71) fs_X8_7 rfl rfl rfl dX8_odds_24 (q := 27) rfl ?_
      refine j_iconst (v := 5) dX8_odds_27 (q := 28) rfl (by decide) ?_
      refine j_ialdV (k := 5) rfl (by decide) hn dX8_odds_28 (q := 29) rfl ?_
      refine j_if_neN (by omega) dX8_odds_29 (t := 38) (by decide) (q := 32) rfl (fun c_29 => ?_) (fun c_29 => ?_)
      · skip
        exact absurd h0 c_29
      · skip
        refine j_aload_n dX8_odds_32 (q := 33) rfl rfl ?_
        refine j_iconst (v := 3) dX8_odds_33 (q := 34) rfl (by decide) ?_
        refine j_callVi1E (M' := M_X8_error) lk_X8_63 mv_X8_error ob_70 (by decide) (Nat.le_of_ble_eq_true rfl) dX8_odds_34 (q := 37) rfl (ct_err3) ?_
        refine j_ireti dX8_odds_37 rfl ?_
        exact ⟨rfl, rfl⟩
    · skip
      exact absurd (inK (b := 1) (by omega) (by decide)) c_14
  · skip
    exact absurd (inF hc h4 hcn) c_5
theorem ok_odds {g : GT} {σ : S_} {nf c y : Nat} (h7 : nf ≤ 7) (h0 : 0 < nf) (hy : y < 2) (v5 : Value) : J g 2 M_X8_odds (EQ (.int ((if y = 0 then nI (pcn (fun n => decide (dryS (σ 71) (nI n) nf ≤ σ 71 (52 + 2 * c))) (2 ^ nf - 1)) else nI (2 ^ nf - 1)) / nI (Nat.gcd (2 ^ nf - 1) (pcn (fun n => decide (dryS (σ 71) (nI n) nf ≤ σ 71 (52 + 2 * c))) (2 ^ nf - 1))))) σ) 91 [.ref 70, .int (nI c), .int (nI y), .int (nI (2 ^ nf - 1)), .int (nI (pcn (fun n => decide (dryS (σ 71) (nI n) nf ≤ σ 71 (52 + 2 * c))) (2 ^ nf - 1))), v5] [] σ := by
  have h127 := p127 h7
  have hp2 : 2 ≤ 2 ^ nf := by obtain ⟨j, rfl⟩ : ∃ j, nf = j + 1 := ⟨nf - 1, by omega⟩; rw [Nat.pow_succ]; have := Nat.two_pow_pos j; omega
  have hcl : pcn (fun n => decide (dryS (σ 71) (nI n) nf ≤ σ 71 (52 + 2 * c))) (2 ^ nf - 1) ≤ 2 ^ nf - 1 := pcn_le _
  have hg1 : 1 ≤ Nat.gcd (2 ^ nf - 1) (pcn (fun n => decide (dryS (σ 71) (nI n) nf ≤ σ 71 (52 + 2 * c))) (2 ^ nf - 1)) := gcd1 (by omega)
  have hg2 : Nat.gcd (2 ^ nf - 1) (pcn (fun n => decide (dryS (σ 71) (nI n) nf ≤ σ 71 (52 + 2 * c))) (2 ^ nf - 1)) ≤ 2 ^ nf - 1 := Nat.gcd_le_left _ (by omega)
  refine j_iload dX8_odds_91 (q := 93) rfl rfl ?_
  refine j_iload_n dX8_odds_93 (q := 94) rfl rfl ?_
  refine j_callSi2E (M' := M_X8_divisor) lk_X8_211 ms_X8_divisor (by decide) (Nat.le_of_ble_eq_true rfl) dX8_odds_94 (q := 97) rfl (ct_X8_divisor (by omega) (by omega)) ?_
  refine j_istore_6_5 dX8_odds_97 (q := 99) rfl rfl rfl ?_
  refine j_iload_n dX8_odds_99 (q := 100) rfl rfl ?_
  refine j_if_neN (by omega) dX8_odds_100 (t := 111) (by decide) (q := 103) rfl (fun c_100 => ?_) (fun c_100 => ?_)
  · skip
    refine j_iload_n dX8_odds_111 (q := 112) rfl rfl ?_
    refine j_iload dX8_odds_112 (q := 114) rfl rfl ?_
    refine j_idiv dX8_odds_114 (q := 115) rfl (fun e => by have := (nI_eq (b := 0) (by omega) (by decide)).mp e; omega) ?_
    refine j_ireti dX8_odds_115 rfl ?_
    exact ⟨congrArg Value.int (by rw [if_neg c_100]), rfl⟩
  · skip
    refine j_iload dX8_odds_103 (q := 105) rfl rfl ?_
    refine j_iload dX8_odds_105 (q := 107) rfl rfl ?_
    refine j_idiv dX8_odds_107 (q := 108) rfl (fun e => by have := (nI_eq (b := 0) (by omega) (by decide)).mp e; omega) ?_
    refine j_goto (q := 115) dX8_odds_108 (by decide) ?_
    refine j_ireti dX8_odds_115 rfl ?_
    exact ⟨congrArg Value.int (by rw [if_pos c_100]), rfl⟩
theorem ct_X8_odds_ok {g : GT} {σ : S_} {nf nc c y : Nat} (hn : σ 71 5 = nI nf) (h7 : nf ≤ 7) (hcn : σ 71 6 = nI nc) (h4 : nc ≤ 4) (hc : c < nc) (hy : y < 2) (h0 : 0 < nf) : CT g 2 M_X8_odds [.ref 70, .int (nI c), .int (nI y)] σ (EQ (.int ((if y = 0 then nI (pcn (fun n => decide (dryS (σ 71) (nI n) nf ≤ σ 71 (52 + 2 * c))) (2 ^ nf - 1)) else nI (2 ^ nf - 1)) / nI (Nat.gcd (2 ^ nf - 1) (pcn (fun n => decide (dryS (σ 71) (nI n) nf ≤ σ 71 (52 + 2 * c))) (2 ^ nf - 1))))) σ) := by
  refine ct_of [.ref 70, .int (nI c), .int (nI y), .null, .null, .null] pn_X8_odds rfl (Nat.le_of_ble_eq_true rfl) ?_
  refine j_aload_n dX8_odds_0 (q := 1) rfl rfl ?_
  refine j_iload_n dX8_odds_1 (q := 2) rfl rfl ?_
  refine j_callVi1E (M' := M_X8_isCarrier) lk_X8_175 mv_X8_isCarrier ob_70 (by decide) (Nat.le_of_ble_eq_true rfl) dX8_odds_2 (q := 5) rfl (ct_X8_isCarrier) ?_
  refine j_ifeqB dX8_odds_5 (t := 17) (by decide) (q := 8) rfl (fun c_5 => ?_) (fun c_5 => ?_)
  · skip
    refine j_iload_n dX8_odds_8 (q := 9) rfl rfl ?_
    refine j_iconst (v := 0) dX8_odds_9 (q := 10) rfl (by decide) ?_
    refine j_iconst (v := 1) dX8_odds_10 (q := 11) rfl (by decide) ?_
    refine j_callSi3E (M' := M_X8_in) lk_X8_59 ms_X8_in (by decide) (Nat.le_of_ble_eq_true rfl) dX8_odds_11 (q := 14) rfl (ct_X8_in) ?_
    refine j_ifneB dX8_odds_14 (t := 23) (by decide) (q := 17) rfl (fun c_14 => ?_) (fun c_14 => ?_)
    · skip
      refine j_aload_n dX8_odds_23 (q := 24) rfl rfl ?_
      refine j_getR (r := 71) fs_X8_7 rfl rfl rfl dX8_odds_24 (q := 27) rfl ?_
      refine j_iconst (v := 5) dX8_odds_27 (q := 28) rfl (by decide) ?_
      refine j_ialdV (k := 5) rfl (by decide) hn dX8_odds_28 (q := 29) rfl ?_
      refine j_if_neN (by omega) dX8_odds_29 (t := 38) (by decide) (q := 32) rfl (fun c_29 => ?_) (fun c_29 => ?_)
      · skip
        refine j_iconst (v := 1) dX8_odds_38 (q := 39) rfl (by decide) ?_
        refine j_aload_n dX8_odds_39 (q := 40) rfl rfl ?_
        refine j_getR (r := 71) fs_X8_7 rfl rfl rfl dX8_odds_40 (q := 43) rfl ?_
        refine j_iconst (v := 5) dX8_odds_43 (q := 44) rfl (by decide) ?_
        refine j_ialdV (k := 5) rfl (by decide) hn dX8_odds_44 (q := 45) rfl ?_
        refine j_shl1 h7 dX8_odds_45 (q := 46) rfl ?_
        refine j_iconst (v := 1) dX8_odds_46 (q := 47) rfl (by decide) ?_
        refine j_isubN (b := 1) (by have := (p127 h7).2; omega) dX8_odds_47 (q := 48) rfl ?_
        refine j_istore_n_6_3 dX8_odds_48 (q := 49) rfl rfl rfl ?_
        refine j_iconst (v := 0) dX8_odds_49 (q := 50) rfl (by decide) ?_
        refine j_istore_6_4 dX8_odds_50 (q := 52) rfl rfl rfl ?_
        refine j_iconst (v := 1) dX8_odds_52 (q := 53) rfl (by decide) ?_
        refine j_istore_6_5 dX8_odds_53 (q := 55) rfl rfl rfl ?_
        exact om_loop hn h7 (by omega) (fun v5 => ok_odds h7 h0 hy v5) (2 ^ nf - 1) 0 (by omega)
      · skip
        omega
    · skip
      exact absurd (inK (b := 1) (by omega) (by decide)) c_14
  · skip
    exact absurd (inF hc h4 hcn) c_5
def lstV (σ : S_) (nf : Nat) (v : Int32) (i : Nat) : Int32 := (if fstQ (fun n => decide (dryS (σ 71) (nI n) nf = v)) (2 ^ nf - 1 - (i)) ((i) + 1) = 0 then -1 else nI (fstQ (fun n => decide (dryS (σ 71) (nI n) nf = v)) (2 ^ nf - 1 - (i)) ((i) + 1)))
theorem fstQ_y {Q : Nat → Bool} {k i : Nat} (h : Q i = true) : fstQ Q (k + 1) i = i := if_pos h
theorem fstQ_n {Q : Nat → Bool} {k i : Nat} (h : ¬ Q i = true) : fstQ Q (k + 1) i = fstQ Q k (i + 1) := if_neg h
theorem lstV_s {σ : S_} {nf : Nat} {v : Int32} {i : Nat} (h : i + 1 ≤ 2 ^ nf - 1) : lstV σ nf v i = if dryS (σ 71) (nI (i + 1)) nf = v then nI (i + 1) else lstV σ nf v (i + 1) := by
  unfold lstV
  rw [show 2 ^ nf - 1 - i = (2 ^ nf - 1 - (i + 1)) + 1 by omega]
  by_cases c : dryS (σ 71) (nI (i + 1)) nf = v
  · rw [fstQ_y (k := 2 ^ nf - 1 - (i + 1)) (i := i + 1) (by simp; exact c), if_pos c, if_neg (by omega)]
  · rw [fstQ_n (k := 2 ^ nf - 1 - (i + 1)) (i := i + 1) (by simp; exact c), if_neg c]
theorem wm_loop {g : GT} {σ : S_} {nf y : Nat} {v : Int32} {Z : Value → S_ → Prop} (h5 : σ 71 5 = nI nf) (h7 : nf ≤ 7) (hK : ∀ v5 v6 : Value, J g 2 M_X8_whose Z 91 [.ref 70, .int v, .int (nI y), .int (nI (pcn (fun n => decide (dryS (σ 71) (nI n) nf = v)) (2 ^ nf - 1))), .int (lstV σ nf v 0), v5, v6] [] σ) : ∀ (i many : Nat) (v6 : Value), i ≤ 2 ^ nf - 1 → many + pcn (fun n => decide (dryS (σ 71) (nI n) nf = v)) i = pcn (fun n => decide (dryS (σ 71) (nI n) nf = v)) (2 ^ nf - 1) → J g 2 M_X8_whose Z 36 [.ref 70, .int v, .int (nI y), .int (nI many), .int (lstV σ nf v i), .int (nI i), v6] [] σ := by
  intro i
  induction i with
  | zero =>
    intro many v6 hi hm
    have h127 := p127 h7
    refine j_iload dX8_whose_36 (q := 38) rfl rfl ?_
    refine j_if_leN (by omega) dX8_whose_38 (t := 91) (by decide) (q := 41) rfl (fun c_38 => ?_) (fun c_38 => ?_)
    · skip
      rw [show many = pcn (fun n => decide (dryS (σ 71) (nI n) nf = v)) (2 ^ nf - 1) from hm]
      exact hK _ _
    · skip
      omega
  | succ i ih =>
    intro many v6 hi hm
    have h127 := p127 h7
    have hpl := pcn_le (Q := fun n => decide (dryS (σ 71) (nI n) nf = v)) (2 ^ nf - 1)
    refine j_iload dX8_whose_36 (q := 38) rfl rfl ?_
    refine j_if_leN (by omega) dX8_whose_38 (t := 91) (by decide) (q := 41) rfl (fun c_38 => ?_) (fun c_38 => ?_)
    · skip
      omega
    · skip
      refine j_aload_n dX8_whose_41 (q := 42) rfl rfl ?_
      refine j_iload dX8_whose_42 (q := 44) rfl rfl ?_
      refine j_callVi1E (M' := M_X8_dryOf) lk_X8_154 mv_X8_dryOf ob_70 (by decide) (Nat.le_of_ble_eq_true rfl) dX8_whose_44 (q := 47) rfl (ct_X8_dryOf h5 h7) ?_
      refine j_iload_n dX8_whose_47 (q := 48) rfl rfl ?_
      refine j_icmp_ne dX8_whose_48 (t := 55) (by decide) (q := 51) rfl (fun c_48 => ?_) (fun c_48 => ?_)
      · skip
        refine j_iconst (v := 0) dX8_whose_55 (q := 56) rfl (by decide) ?_
        refine j_istore_7_6 dX8_whose_56 (q := 58) rfl rfl rfl ?_
        refine j_iload_n dX8_whose_58 (q := 59) rfl rfl ?_
        refine j_iload dX8_whose_59 (q := 61) rfl rfl ?_
        refine j_if_eq dX8_whose_61 (t := 68) (by decide) (q := 64) rfl (fun c_61 => ?_) (fun c_61 => ?_)
        · skip
          refine j_iconst (v := 0) dX8_whose_68 (q := 69) rfl (by decide) ?_
          refine j_iaddN (b := 0) dX8_whose_69 (q := 70) rfl ?_
          refine j_istore_n_7_3 dX8_whose_70 (q := 71) rfl rfl rfl ?_
          refine j_iload dX8_whose_71 (q := 73) rfl rfl ?_
          refine j_if_eq dX8_whose_73 (t := 81) (by decide) (q := 76) rfl (fun c_73 => ?_) (fun c_73 => ?_)
          · skip
            refine j_iload dX8_whose_81 (q := 83) rfl rfl ?_
            refine j_istore_7_4 dX8_whose_83 (q := 85) rfl rfl rfl ?_
            refine j_iinc_7_5 dX8_whose_85 (q := 88) rfl rfl rfl ?_
            rw [dec_nI (by omega), Nat.add_sub_cancel]
            refine j_goto (q := 36) dX8_whose_88 (by decide) ?_
            have hq : pcn (fun n => decide (dryS (σ 71) (nI n) nf = v)) (i + 1) = pcn (fun n => decide (dryS (σ 71) (nI n) nf = v)) i := by show _ + _ = _; rw [if_neg (by simp; exact c_48)]; rfl
            have hj := ih (many + 0) (.int 0) (by omega) (by rw [← hm, hq]; rfl)
            rw [lstV_s hi, if_neg c_48] at hj
            exact hj
          · skip
            exact absurd c_73 (by decide)
        · skip
          exact absurd c_61 (by decide)
      · skip
        refine j_iconst (v := 1) dX8_whose_51 (q := 52) rfl (by decide) ?_
        refine j_goto (q := 56) dX8_whose_52 (by decide) ?_
        refine j_istore_7_6 dX8_whose_56 (q := 58) rfl rfl rfl ?_
        refine j_iload_n dX8_whose_58 (q := 59) rfl rfl ?_
        refine j_iload dX8_whose_59 (q := 61) rfl rfl ?_
        refine j_if_eq dX8_whose_61 (t := 68) (by decide) (q := 64) rfl (fun c_61 => ?_) (fun c_61 => ?_)
        · skip
          exact absurd c_61 (by decide)
        · skip
          refine j_iconst (v := 1) dX8_whose_64 (q := 65) rfl (by decide) ?_
          refine j_goto (q := 69) dX8_whose_65 (by decide) ?_
          refine j_iaddN (b := 1) dX8_whose_69 (q := 70) rfl ?_
          refine j_istore_n_7_3 dX8_whose_70 (q := 71) rfl rfl rfl ?_
          refine j_iload dX8_whose_71 (q := 73) rfl rfl ?_
          refine j_if_eq dX8_whose_73 (t := 81) (by decide) (q := 76) rfl (fun c_73 => ?_) (fun c_73 => ?_)
          · skip
            exact absurd c_73 (by decide)
          · skip
            refine j_iload dX8_whose_76 (q := 78) rfl rfl ?_
            refine j_goto (q := 83) dX8_whose_78 (by decide) ?_
            refine j_istore_7_4 dX8_whose_83 (q := 85) rfl rfl rfl ?_
            refine j_iinc_7_5 dX8_whose_85 (q := 88) rfl rfl rfl ?_
            rw [dec_nI (by omega), Nat.add_sub_cancel]
            refine j_goto (q := 36) dX8_whose_88 (by decide) ?_
            have hq : pcn (fun n => decide (dryS (σ 71) (nI n) nf = v)) (i + 1) = pcn (fun n => decide (dryS (σ 71) (nI n) nf = v)) i + 1 := by show _ + _ = _; rw [if_pos (by simp; exact c_48)]
            have hj := ih (many + 1) (.int 1) (by omega) (by rw [← hm, hq]; omega)
            rw [lstV_s hi, if_pos c_48] at hj
            exact hj
theorem wk0 {g : GT} {σ : S_} {nf : Nat} {v : Int32} (v5 v6 : Value) : J g 2 M_X8_whose (EQ (.int (nI (pcn (fun n => decide (dryS (σ 71) (nI n) nf = v)) (2 ^ nf - 1)))) σ) 91 [.ref 70, .int v, .int (nI 0), .int (nI (pcn (fun n => decide (dryS (σ 71) (nI n) nf = v)) (2 ^ nf - 1))), .int (lstV σ nf v 0), v5, v6] [] σ := by
  refine j_iload_n dX8_whose_91 (q := 92) rfl rfl ?_
  refine j_if_neN (by omega) dX8_whose_92 (t := 99) (by decide) (q := 95) rfl (fun c_92 => ?_) (fun c_92 => ?_)
  · skip
    exact absurd rfl c_92
  · skip
    refine j_iload_n dX8_whose_95 (q := 96) rfl rfl ?_
    refine j_goto (q := 115) dX8_whose_96 (by decide) ?_
    refine j_ireti dX8_whose_115 rfl ?_
    exact ⟨rfl, rfl⟩
theorem wk1 {g : GT} {σ : S_} {nf : Nat} {v : Int32} (h7 : nf ≤ 7) (v5 v6 : Value) : J g 2 M_X8_whose (if fstQ (fun n => decide (dryS (σ 71) (nI n) nf = v)) (2 ^ nf - 1) 1 = 0 then EQ (.int (-1000000002)) (rfm σ 2) else EQ (.int (nI (fstQ (fun n => decide (dryS (σ 71) (nI n) nf = v)) (2 ^ nf - 1) 1))) σ) 91 [.ref 70, .int v, .int (nI 1), .int (nI (pcn (fun n => decide (dryS (σ 71) (nI n) nf = v)) (2 ^ nf - 1))), .int (lstV σ nf v 0), v5, v6] [] σ := by
  have h127 := p127 h7
  have hle := fstQ_le (Q := fun n => decide (dryS (σ 71) (nI n) nf = v)) (2 ^ nf - 1) 1
  have hlv : lstV σ nf v 0 = if fstQ (fun n => decide (dryS (σ 71) (nI n) nf = v)) (2 ^ nf - 1) 1 = 0 then -1 else nI (fstQ (fun n => decide (dryS (σ 71) (nI n) nf = v)) (2 ^ nf - 1) 1) := rfl
  rw [hlv]
  refine j_iload_n dX8_whose_91 (q := 92) rfl rfl ?_
  refine j_if_neN (by omega) dX8_whose_92 (t := 99) (by decide) (q := 95) rfl (fun c_92 => ?_) (fun c_92 => ?_)
  · skip
    refine j_iload dX8_whose_99 (q := 101) rfl rfl ?_
    refine j_iconst (v := (-1)) dX8_whose_101 (q := 102) rfl (by decide) ?_
    refine j_icmp_ne dX8_whose_102 (t := 113) (by decide) (q := 105) rfl (fun c_102 => ?_) (fun c_102 => ?_)
    · skip
      refine j_iload dX8_whose_113 (q := 115) rfl rfl ?_
      refine j_ireti dX8_whose_115 rfl ?_
      by_cases q : fstQ (fun n => decide (dryS (σ 71) (nI n) nf = v)) (2 ^ nf - 1) 1 = 0
      · rw [if_pos q] at c_102; exact absurd rfl c_102
      · rw [if_neg q, if_neg q]; exact ⟨rfl, rfl⟩
    · skip
      refine j_aload_n dX8_whose_105 (q := 106) rfl rfl ?_
      refine j_iconst (v := 2) dX8_whose_106 (q := 107) rfl (by decide) ?_
      refine j_callVi1E (M' := M_X8_error) lk_X8_63 mv_X8_error ob_70 (by decide) (Nat.le_of_ble_eq_true rfl) dX8_whose_107 (q := 110) rfl (ct_err2) ?_
      refine j_goto (q := 115) dX8_whose_110 (by decide) ?_
      refine j_ireti dX8_whose_115 rfl ?_
      by_cases q : fstQ (fun n => decide (dryS (σ 71) (nI n) nf = v)) (2 ^ nf - 1) 1 = 0
      · rw [if_pos q]; exact ⟨rfl, rfl⟩
      · rw [if_neg q] at c_102; exact absurd (show nI _ < 0 by rw [c_102]; decide) (nI_pos (by omega))
  · skip
    exact absurd c_92 (by decide)
theorem ct_X8_whose_0 {g : GT} {σ : S_} {nf : Nat} (hn : σ 71 5 = nI nf) (h7 : nf ≤ 7) {v : Int32} (hv : ¬ v < 0) {y : Nat} (hy : y = 0) : CT g 2 M_X8_whose [.ref 70, .int v, .int (nI y)] σ (EQ (.int (nI (pcn (fun n => decide (dryS (σ 71) (nI n) nf = v)) (2 ^ nf - 1)))) σ) := by
  refine ct_of [.ref 70, .int v, .int (nI y), .null, .null, .null, .null] pn_X8_whose rfl (Nat.le_of_ble_eq_true rfl) ?_
  refine j_iload_n dX8_whose_0 (q := 1) rfl rfl ?_
  refine j_if_lt dX8_whose_1 (t := 13) (by decide) (q := 4) rfl (fun c_1 => ?_) (fun c_1 => ?_)
  · skip
    exact absurd c_1 hv
  · skip
    refine j_iload_n dX8_whose_4 (q := 5) rfl rfl ?_
    refine j_iconst (v := 0) dX8_whose_5 (q := 6) rfl (by decide) ?_
    refine j_iconst (v := 1) dX8_whose_6 (q := 7) rfl (by decide) ?_
    refine j_callSi3E (M' := M_X8_in) lk_X8_59 ms_X8_in (by decide) (Nat.le_of_ble_eq_true rfl) dX8_whose_7 (q := 10) rfl (ct_X8_in) ?_
    refine j_ifneB dX8_whose_10 (t := 19) (by decide) (q := 13) rfl (fun c_10 => ?_) (fun c_10 => ?_)
    · skip
      refine j_iconst (v := 0) dX8_whose_19 (q := 20) rfl (by decide) ?_
      refine j_istore_n_7_3 dX8_whose_20 (q := 21) rfl rfl rfl ?_
      refine j_iconst (v := (-1)) dX8_whose_21 (q := 22) rfl (by decide) ?_
      refine j_istore_7_4 dX8_whose_22 (q := 24) rfl rfl rfl ?_
      refine j_iconst (v := 1) dX8_whose_24 (q := 25) rfl (by decide) ?_
      refine j_aload_n dX8_whose_25 (q := 26) rfl rfl ?_
      refine j_getR (r := 71) fs_X8_7 rfl rfl rfl dX8_whose_26 (q := 29) rfl ?_
      refine j_iconst (v := 5) dX8_whose_29 (q := 30) rfl (by decide) ?_
      refine j_ialdV (k := 5) rfl (by decide) hn dX8_whose_30 (q := 31) rfl ?_
      refine j_shl1 h7 dX8_whose_31 (q := 32) rfl ?_
      refine j_iconst (v := 1) dX8_whose_32 (q := 33) rfl (by decide) ?_
      refine j_isubN (b := 1) (by have := (p127 h7).2; omega) dX8_whose_33 (q := 34) rfl ?_
      refine j_istore_7_5 dX8_whose_34 (q := 36) rfl rfl rfl ?_
      have hl : lstV σ nf v (2 ^ nf - 1) = -1 := by unfold lstV; rw [Nat.sub_self]; rfl
      rw [← hl]
      subst hy
      exact wm_loop hn h7 (fun v5 v6 => wk0 v5 v6) (2 ^ nf - 1) 0 _ (Nat.le_refl _) (Nat.zero_add _)
    · skip
      exact absurd (inK (b := 1) (by omega) (by decide)) c_10
theorem ct_X8_whose_1 {g : GT} {σ : S_} {nf : Nat} (hn : σ 71 5 = nI nf) (h7 : nf ≤ 7) {v : Int32} (hv : ¬ v < 0) {y : Nat} (hy : y = 1) : CT g 2 M_X8_whose [.ref 70, .int v, .int (nI y)] σ ((if fstQ (fun n => decide (dryS (σ 71) (nI n) nf = v)) (2 ^ nf - 1) 1 = 0 then EQ (.int (-1000000002)) (rfm σ 2) else EQ (.int (nI (fstQ (fun n => decide (dryS (σ 71) (nI n) nf = v)) (2 ^ nf - 1) 1))) σ)) := by
  refine ct_of [.ref 70, .int v, .int (nI y), .null, .null, .null, .null] pn_X8_whose rfl (Nat.le_of_ble_eq_true rfl) ?_
  refine j_iload_n dX8_whose_0 (q := 1) rfl rfl ?_
  refine j_if_lt dX8_whose_1 (t := 13) (by decide) (q := 4) rfl (fun c_1 => ?_) (fun c_1 => ?_)
  · skip
    exact absurd c_1 hv
  · skip
    refine j_iload_n dX8_whose_4 (q := 5) rfl rfl ?_
    refine j_iconst (v := 0) dX8_whose_5 (q := 6) rfl (by decide) ?_
    refine j_iconst (v := 1) dX8_whose_6 (q := 7) rfl (by decide) ?_
    refine j_callSi3E (M' := M_X8_in) lk_X8_59 ms_X8_in (by decide) (Nat.le_of_ble_eq_true rfl) dX8_whose_7 (q := 10) rfl (ct_X8_in) ?_
    refine j_ifneB dX8_whose_10 (t := 19) (by decide) (q := 13) rfl (fun c_10 => ?_) (fun c_10 => ?_)
    · skip
      refine j_iconst (v := 0) dX8_whose_19 (q := 20) rfl (by decide) ?_
      refine j_istore_n_7_3 dX8_whose_20 (q := 21) rfl rfl rfl ?_
      refine j_iconst (v := (-1)) dX8_whose_21 (q := 22) rfl (by decide) ?_
      refine j_istore_7_4 dX8_whose_22 (q := 24) rfl rfl rfl ?_
      refine j_iconst (v := 1) dX8_whose_24 (q := 25) rfl (by decide) ?_
      refine j_aload_n dX8_whose_25 (q := 26) rfl rfl ?_
      refine j_getR (r := 71) fs_X8_7 rfl rfl rfl dX8_whose_26 (q := 29) rfl ?_
      refine j_iconst (v := 5) dX8_whose_29 (q := 30) rfl (by decide) ?_
      refine j_ialdV (k := 5) rfl (by decide) hn dX8_whose_30 (q := 31) rfl ?_
      refine j_shl1 h7 dX8_whose_31 (q := 32) rfl ?_
      refine j_iconst (v := 1) dX8_whose_32 (q := 33) rfl (by decide) ?_
      refine j_isubN (b := 1) (by have := (p127 h7).2; omega) dX8_whose_33 (q := 34) rfl ?_
      refine j_istore_7_5 dX8_whose_34 (q := 36) rfl rfl rfl ?_
      have hl : lstV σ nf v (2 ^ nf - 1) = -1 := by unfold lstV; rw [Nat.sub_self]; rfl
      rw [← hl]
      subst hy
      exact wm_loop hn h7 (fun v5 v6 => wk1 h7 v5 v6) (2 ^ nf - 1) 0 _ (Nat.le_refl _) (Nat.zero_add _)
    · skip
      exact absurd (inK (b := 1) (by omega) (by decide)) c_10
