theorem ry_loop {g : GT} {c y nf : Nat} {v4 v5 v6 v7 : Value} {σ0 : S_} (hn : σ0 71 5 = nI nf) (h7 : nf ≤ 7) (hT : TOK (σ0 71) 1) {Z : Value → S_ → Prop} (hZ : ∀ τ : S_, (∀ j, j < nf → τ 78 j = payOfT (σ0 71) j) → (∀ x, x ≠ 76 → x ≠ 77 → x ≠ 78 → τ x = σ0 x) → J g 4 M_X8_round Z 52 [.ref 70, .int (nI c), .int (nI y), .int (nI nf), v4, v5, v6, v7] [] τ) : ∀ (k i : Nat) (σ : S_), i + k = nf → (∀ j, j < i → σ 78 j = payOfT (σ0 71) j) → (∀ x, x ≠ 76 → x ≠ 77 → x ≠ 78 → σ x = σ0 x) → J g 4 M_X8_round Z 25 [.ref 70, .int (nI c), .int (nI y), .int (nI i), v4, v5, v6, v7] [] σ := by
  intro k
  induction k with
  | zero =>
    intro i σ hik hP hO
    refine j_iload_n dX8_round_25 (q := 26) rfl rfl ?_
    refine j_aload_n dX8_round_26 (q := 27) rfl rfl ?_
    refine j_getR (r := 71) fs_X8_7 rfl rfl rfl dX8_round_27 (q := 30) rfl ?_
    refine j_iconst (v := 5) dX8_round_30 (q := 31) rfl (by decide) ?_
    refine j_ialdV (k := 5) rfl (by decide) ((congrFun (hO 71 (by decide) (by decide) (by decide)) 5).trans hn) dX8_round_31 (q := 32) rfl ?_
    refine j_icmp_geN (by omega) (by omega) dX8_round_32 (t := 52) (by decide) (q := 35) rfl (fun c_32 => ?_) (fun c_32 => ?_)
    · skip
      obtain rfl : i = nf := by omega
      exact hZ σ hP hO
    · skip
      omega
  | succ k ih =>
    intro i σ hik hP hO
    refine j_iload_n dX8_round_25 (q := 26) rfl rfl ?_
    refine j_aload_n dX8_round_26 (q := 27) rfl rfl ?_
    refine j_getR (r := 71) fs_X8_7 rfl rfl rfl dX8_round_27 (q := 30) rfl ?_
    refine j_iconst (v := 5) dX8_round_30 (q := 31) rfl (by decide) ?_
    refine j_ialdV (k := 5) rfl (by decide) ((congrFun (hO 71 (by decide) (by decide) (by decide)) 5).trans hn) dX8_round_31 (q := 32) rfl ?_
    refine j_icmp_geN (by omega) (by omega) dX8_round_32 (t := 52) (by decide) (q := 35) rfl (fun c_32 => ?_) (fun c_32 => ?_)
    · skip
      omega
    · skip
      refine j_aload_n dX8_round_35 (q := 36) rfl rfl ?_
      refine j_getR (r := 78) fs_X8_31 rfl rfl rfl dX8_round_36 (q := 39) rfl ?_
      refine j_iload_n dX8_round_39 (q := 40) rfl rfl ?_
      refine j_aload_n dX8_round_40 (q := 41) rfl rfl ?_
      refine j_iload_n dX8_round_41 (q := 42) rfl rfl ?_
      refine j_callVi1 (M' := M_X8_payOf) lk_X8_160 mv_X8_payOf ob_70 (by decide) (Nat.le_of_ble_eq_true rfl) dX8_round_42 (q := 45) rfl (ct_X8_payOf (by omega) (by rw [hO 71 (by decide) (by decide) (by decide)]; exact hT)) ?_
      intro x1 τ1 hz
      obtain ⟨h1, hτ1⟩ := hz
      cases h1
      have e71 : σ 71 = σ0 71 := hO 71 (by decide) (by decide) (by decide)
      rw [e71]
      refine j_iastN rfl (by omega) dX8_round_45 (q := 46) rfl ?_
      refine j_iincN_8_3 dX8_round_46 (q := 49) rfl rfl rfl ?_
      refine j_goto (q := 25) dX8_round_49 (by decide) ?_
      refine ih (i + 1) _ (by omega) (fun j hj => ?_) (fun x a b c => ?_)
      · by_cases e : j = i
        · subst e; exact up_at
        · rw [up_nk e, hτ1 78 (by decide) (by decide)]
          exact hP j (by omega)
      · exact (up_row c).trans ((hτ1 x a b).trans (hO x a b c))
theorem rs_loop {g : GT} {σ : S_} {c y nf set : Nat} {v3 v4 : Value} (hn : σ 71 5 = nI nf) (h7 : nf ≤ 7) (hP : ∀ j, j < nf → σ 78 j = payOfT (σ 71) j) {Z : Value → S_ → Prop} (hZ : J g 4 M_X8_round Z 123 [.ref 70, .int (nI c), .int (nI y), v3, v4, .int (nI set), .int (payS (σ 71) (nI set) nf), .int (nI nf)] [] σ) : ∀ (k i : Nat), i + k = nf → J g 4 M_X8_round Z 79 [.ref 70, .int (nI c), .int (nI y), v3, v4, .int (nI set), .int (payS (σ 71) (nI set) i), .int (nI i)] [] σ := by
  intro k
  induction k with
  | zero =>
    intro i hik
    refine j_iload dX8_round_79 (q := 81) rfl rfl ?_
    refine j_aload_n dX8_round_81 (q := 82) rfl rfl ?_
    refine j_getR (r := 71) fs_X8_7 rfl rfl rfl dX8_round_82 (q := 85) rfl ?_
    refine j_iconst (v := 5) dX8_round_85 (q := 86) rfl (by decide) ?_
    refine j_ialdV (k := 5) rfl (by decide) hn dX8_round_86 (q := 87) rfl ?_
    refine j_icmp_geN (by omega) (by omega) dX8_round_87 (t := 123) (by decide) (q := 90) rfl (fun c_87 => ?_) (fun c_87 => ?_)
    · skip
      obtain rfl : i = nf := by omega
      exact hZ
    · skip
      omega
  | succ k ih =>
    intro i hik
    refine j_iload dX8_round_79 (q := 81) rfl rfl ?_
    refine j_aload_n dX8_round_81 (q := 82) rfl rfl ?_
    refine j_getR (r := 71) fs_X8_7 rfl rfl rfl dX8_round_82 (q := 85) rfl ?_
    refine j_iconst (v := 5) dX8_round_85 (q := 86) rfl (by decide) ?_
    refine j_ialdV (k := 5) rfl (by decide) hn dX8_round_86 (q := 87) rfl ?_
    refine j_icmp_geN (by omega) (by omega) dX8_round_87 (t := 123) (by decide) (q := 90) rfl (fun c_87 => ?_) (fun c_87 => ?_)
    · skip
      omega
    · skip
      refine j_iload dX8_round_90 (q := 92) rfl rfl ?_
      refine j_iload dX8_round_92 (q := 94) rfl rfl ?_
      refine j_iload dX8_round_94 (q := 96) rfl rfl ?_
      refine j_ishr dX8_round_96 (q := 97) rfl ?_
      refine j_iconst (v := 1) dX8_round_97 (q := 98) rfl (by decide) ?_
      refine j_iand dX8_round_98 (q := 99) rfl ?_
      refine j_iconst (v := 1) dX8_round_99 (q := 100) rfl (by decide) ?_
      refine j_icmp_ne dX8_round_100 (t := 113) (by decide) (q := 103) rfl (fun c_100 => ?_) (fun c_100 => ?_)
      · skip
        refine j_iconst (v := 0) dX8_round_113 (q := 114) rfl (by decide) ?_
        refine j_iadd dX8_round_114 (q := 115) rfl ?_
        refine j_istore_8_6 dX8_round_115 (q := 117) rfl rfl rfl ?_
        refine j_iincN_8_7 dX8_round_117 (q := 120) rfl rfl rfl ?_
        refine j_goto (q := 79) dX8_round_120 (by decide) ?_
        have hj := ih (i + 1) (by omega)
        rw [show payS (σ 71) (nI set) (i + 1) = payS (σ 71) (nI set) i + 0 from (if_neg c_100).trans (Int32.add_zero _).symm] at hj
        exact hj
      · skip
        refine j_aload_n dX8_round_103 (q := 104) rfl rfl ?_
        refine j_getR (r := 78) fs_X8_31 rfl rfl rfl dX8_round_104 (q := 107) rfl ?_
        refine j_iload dX8_round_107 (q := 109) rfl rfl ?_
        refine j_ialdV rfl (by omega) (hP i (by omega)) dX8_round_109 (q := 110) rfl ?_
        refine j_goto (q := 114) dX8_round_110 (by decide) ?_
        refine j_iadd dX8_round_114 (q := 115) rfl ?_
        refine j_istore_8_6 dX8_round_115 (q := 117) rfl rfl rfl ?_
        refine j_iincN_8_7 dX8_round_117 (q := 120) rfl rfl rfl ?_
        refine j_goto (q := 79) dX8_round_120 (by decide) ?_
        have hj := ih (i + 1) (by omega)
        rw [show payS (σ 71) (nI set) (i + 1) = payS (σ 71) (nI set) i + payOfT (σ 71) i from if_pos c_100] at hj
        exact hj
theorem rr_in {g : GT} {σ : S_} {c y nf i b : Nat} {p q : Int32} (hn : σ 71 5 = nI nf) (h7 : nf ≤ 7) (hc : c < 4) {Z : Value → S_ → Prop} {v7 : Value} (h1 : dryS (σ 71) (nI i) nf ≤ σ 71 (52 + 2 * c) ∧ p < q → J g 4 M_X8_round Z 60 [.ref 70, .int (nI c), .int (nI y), .int (nI i), .int q, .int (nI (i + 1)), .int q, v7] [] σ) (h2 : ¬ (dryS (σ 71) (nI i) nf ≤ σ 71 (52 + 2 * c) ∧ p < q) → J g 4 M_X8_round Z 60 [.ref 70, .int (nI c), .int (nI y), .int (nI b), .int p, .int (nI (i + 1)), .int q, v7] [] σ) : J g 4 M_X8_round Z 123 [.ref 70, .int (nI c), .int (nI y), .int (nI b), .int p, .int (nI i), .int q, v7] [] σ := by
  refine j_iload dX8_round_123 (q := 125) rfl rfl ?_
  refine j_iload dX8_round_125 (q := 127) rfl rfl ?_
  refine j_icmp_le dX8_round_127 (t := 151) (by decide) (q := 130) rfl (fun c_127 => ?_) (fun c_127 => ?_)
  · skip
    refine j_iincN_8_5 dX8_round_151 (q := 154) rfl rfl rfl ?_
    refine j_goto (q := 60) dX8_round_154 (by decide) ?_
    exact h2 (fun z => absurd z.2 (Int32.not_lt.mpr c_127))
  · skip
    refine j_aload_n dX8_round_130 (q := 131) rfl rfl ?_
    refine j_iload dX8_round_131 (q := 133) rfl rfl ?_
    refine j_callVi1E (M' := M_X8_dryOf) lk_X8_154 mv_X8_dryOf ob_70 (by decide) (Nat.le_of_ble_eq_true rfl) dX8_round_133 (q := 136) rfl (ct_X8_dryOf hn h7) ?_
    refine j_aload_n dX8_round_136 (q := 137) rfl rfl ?_
    refine j_iload_n dX8_round_137 (q := 138) rfl rfl ?_
    refine j_callVi1E (M' := M_X8_belly) lk_X8_157 mv_X8_belly ob_70 (by decide) (Nat.le_of_ble_eq_true rfl) dX8_round_138 (q := 141) rfl (ct_X8_belly hc) ?_
    refine j_icmp_gt dX8_round_141 (t := 151) (by decide) (q := 144) rfl (fun c_141 => ?_) (fun c_141 => ?_)
    · skip
      refine j_iincN_8_5 dX8_round_151 (q := 154) rfl rfl rfl ?_
      refine j_goto (q := 60) dX8_round_154 (by decide) ?_
      exact h2 (fun z => absurd z.1 (Int32.not_le.mpr c_141))
    · skip
      refine j_iload dX8_round_144 (q := 146) rfl rfl ?_
      refine j_istore_n_8_3 dX8_round_146 (q := 147) rfl rfl rfl ?_
      refine j_iload dX8_round_147 (q := 149) rfl rfl ?_
      refine j_istore_8_4 dX8_round_149 (q := 151) rfl rfl rfl ?_
      refine j_iincN_8_5 dX8_round_151 (q := 154) rfl rfl rfl ?_
      refine j_goto (q := 60) dX8_round_154 (by decide) ?_
      exact h1 ⟨Int32.not_lt.mp c_141, Int32.not_le.mp c_127⟩
theorem rr_loop {g : GT} {σ : S_} {c y nf : Nat} (hn : σ 71 5 = nI nf) (h7 : nf ≤ 7) (hc : c < 4) (hP : ∀ j, j < nf → σ 78 j = payOfT (σ 71) j) {Z : Value → S_ → Prop} (hZ : ∀ v5 v6 v7, J g 4 M_X8_round Z 157 [.ref 70, .int (nI c), .int (nI y), .int (nI (rndT (σ 71) nf (σ 71 (52 + 2 * c)) (2 ^ nf - 1)).1), .int (rndT (σ 71) nf (σ 71 (52 + 2 * c)) (2 ^ nf - 1)).2, v5, v6, v7] [] σ) : ∀ (k i : Nat) (v6 v7 : Value), i + k = 2 ^ nf - 1 → J g 4 M_X8_round Z 60 [.ref 70, .int (nI c), .int (nI y), .int (nI (rndT (σ 71) nf (σ 71 (52 + 2 * c)) i).1), .int (rndT (σ 71) nf (σ 71 (52 + 2 * c)) i).2, .int (nI (i + 1)), v6, v7] [] σ := by
  intro k
  induction k with
  | zero =>
    intro i v6 v7 hik
    have h127 := p127 h7
    refine j_iload dX8_round_60 (q := 62) rfl rfl ?_
    refine j_iconst (v := 1) dX8_round_62 (q := 63) rfl (by decide) ?_
    refine j_aload_n dX8_round_63 (q := 64) rfl rfl ?_
    refine j_getR (r := 71) fs_X8_7 rfl rfl rfl dX8_round_64 (q := 67) rfl ?_
    refine j_iconst (v := 5) dX8_round_67 (q := 68) rfl (by decide) ?_
    refine j_ialdV (k := 5) rfl (by decide) hn dX8_round_68 (q := 69) rfl ?_
    refine j_shl1 h7 dX8_round_69 (q := 70) rfl ?_
    refine j_icmp_geN (by omega) (by omega) dX8_round_70 (t := 157) (by decide) (q := 73) rfl (fun c_70 => ?_) (fun c_70 => ?_)
    · skip
      obtain rfl : i = 2 ^ nf - 1 := by omega
      exact hZ _ _ _
    · skip
      omega
  | succ k ih =>
    intro i v6 v7 hik
    have h127 := p127 h7
    refine j_iload dX8_round_60 (q := 62) rfl rfl ?_
    refine j_iconst (v := 1) dX8_round_62 (q := 63) rfl (by decide) ?_
    refine j_aload_n dX8_round_63 (q := 64) rfl rfl ?_
    refine j_getR (r := 71) fs_X8_7 rfl rfl rfl dX8_round_64 (q := 67) rfl ?_
    refine j_iconst (v := 5) dX8_round_67 (q := 68) rfl (by decide) ?_
    refine j_ialdV (k := 5) rfl (by decide) hn dX8_round_68 (q := 69) rfl ?_
    refine j_shl1 h7 dX8_round_69 (q := 70) rfl ?_
    refine j_icmp_geN (by omega) (by omega) dX8_round_70 (t := 157) (by decide) (q := 73) rfl (fun c_70 => ?_) (fun c_70 => ?_)
    · skip
      omega
    · skip
      refine j_iconst (v := 0) dX8_round_73 (q := 74) rfl (by decide) ?_
      refine j_istore_8_6 dX8_round_74 (q := 76) rfl rfl rfl ?_
      refine j_iconst (v := 0) dX8_round_76 (q := 77) rfl (by decide) ?_
      refine j_istore_8_7 dX8_round_77 (q := 79) rfl rfl rfl ?_
      refine rs_loop (set := i + 1) hn h7 hP ?_ nf 0 (by omega)
      refine rr_in hn h7 hc (fun hM => ?_) (fun hM => ?_)
      · have hj := ih (i + 1) (.int (payS (σ 71) (nI (i + 1)) nf)) (.int (nI nf)) (by omega)
        rw [show rndT (σ 71) nf (σ 71 (52 + 2 * c)) (i + 1) = (i + 1, payS (σ 71) (nI (i + 1)) nf) from if_pos hM] at hj
        exact hj
      · have hj := ih (i + 1) (.int (payS (σ 71) (nI (i + 1)) nf)) (.int (nI nf)) (by omega)
        rw [show rndT (σ 71) nf (σ 71 (52 + 2 * c)) (i + 1) = rndT (σ 71) nf (σ 71 (52 + 2 * c)) i from if_neg hM] at hj
        exact hj
theorem rr_end {g : GT} {σ : S_} {c y b : Nat} {p : Int32} {Z : Value → S_ → Prop} {v5 v6 v7 : Value} (hy : y < 2) (hZ : Z (.int (if y = 0 then nI b else p)) σ) : J g 4 M_X8_round Z 157 [.ref 70, .int (nI c), .int (nI y), .int (nI b), .int p, v5, v6, v7] [] σ := by
  refine j_iload_n dX8_round_157 (q := 158) rfl rfl ?_
  refine j_if_neN (by omega) dX8_round_158 (t := 165) (by decide) (q := 161) rfl (fun c_158 => ?_) (fun c_158 => ?_)
  · skip
    refine j_iload dX8_round_165 (q := 167) rfl rfl ?_
    refine j_ireti dX8_round_167 rfl ?_
    rw [if_neg c_158] at hZ
    exact hZ
  · skip
    refine j_iload_n dX8_round_161 (q := 162) rfl rfl ?_
    refine j_goto (q := 167) dX8_round_162 (by decide) ?_
    refine j_ireti dX8_round_167 rfl ?_
    rw [if_pos c_158] at hZ
    exact hZ
theorem ct_X8_round_ok {g : GT} {σ : S_} {nf nc c y : Nat} (hn : σ 71 5 = nI nf) (h7 : nf ≤ 7) (hT : TOK (σ 71) 1) (hcn : σ 71 6 = nI nc) (h4 : nc ≤ 4) (hc : c < nc) (hy : y < 2) : CT g 4 M_X8_round [.ref 70, .int (nI c), .int (nI y)] σ (fun r τ => r = .int (if y = 0 then nI (rndT (σ 71) nf (σ 71 (52 + 2 * c)) (2 ^ nf - 1)).1 else (rndT (σ 71) nf (σ 71 (52 + 2 * c)) (2 ^ nf - 1)).2) ∧ ∀ x, x ≠ 76 → x ≠ 77 → x ≠ 78 → τ x = σ x) := by
  refine ct_of [.ref 70, .int (nI c), .int (nI y), .null, .null, .null, .null, .null] pn_X8_round rfl (Nat.le_of_ble_eq_true rfl) ?_
  refine j_aload_n dX8_round_0 (q := 1) rfl rfl ?_
  refine j_iload_n dX8_round_1 (q := 2) rfl rfl ?_
  refine j_callVi1E (M' := M_X8_isCarrier) lk_X8_175 mv_X8_isCarrier ob_70 (by decide) (Nat.le_of_ble_eq_true rfl) dX8_round_2 (q := 5) rfl (ct_X8_isCarrier) ?_
  refine j_ifeqB dX8_round_5 (t := 17) (by decide) (q := 8) rfl (fun c_5 => ?_) (fun c_5 => ?_)
  · skip
    refine j_iload_n dX8_round_8 (q := 9) rfl rfl ?_
    refine j_iconst (v := 0) dX8_round_9 (q := 10) rfl (by decide) ?_
    refine j_iconst (v := 1) dX8_round_10 (q := 11) rfl (by decide) ?_
    refine j_callSi3E (M' := M_X8_in) lk_X8_59 ms_X8_in (by decide) (Nat.le_of_ble_eq_true rfl) dX8_round_11 (q := 14) rfl (ct_X8_in) ?_
    refine j_ifneB dX8_round_14 (t := 23) (by decide) (q := 17) rfl (fun c_14 => ?_) (fun c_14 => ?_)
    · skip
      refine j_iconst (v := 0) dX8_round_23 (q := 24) rfl (by decide) ?_
      refine j_istore_n_8_3 dX8_round_24 (q := 25) rfl rfl rfl ?_
      refine ry_loop (σ0 := σ) hn h7 hT (fun τ hP hO => ?_) nf 0 σ (by omega) (fun j hj => absurd hj (by omega)) (fun _ _ _ _ => rfl)
      have e71 : τ 71 = σ 71 := hO 71 (by decide) (by decide) (by decide)
      refine j_iconst (v := 0) dX8_round_52 (q := 53) rfl (by decide) ?_
      refine j_istore_n_8_3 dX8_round_53 (q := 54) rfl rfl rfl ?_
      refine j_iconst (v := 0) dX8_round_54 (q := 55) rfl (by decide) ?_
      refine j_istore_8_4 dX8_round_55 (q := 57) rfl rfl rfl ?_
      refine j_iconst (v := 1) dX8_round_57 (q := 58) rfl (by decide) ?_
      refine j_istore_8_5 dX8_round_58 (q := 60) rfl rfl rfl ?_
      exact rr_loop (nf := nf) (by rw [e71]; exact hn) h7 (by omega) (by rw [e71]; exact hP) (fun v5 v6 v7 => rr_end hy (by rw [e71]; exact ⟨rfl, hO⟩)) (2 ^ nf - 1) 0 _ _ (by omega)
    · skip
      exact absurd (inK (b := 1) (by omega) (by decide)) c_14
  · skip
    exact absurd (inF hc h4 hcn) c_5
