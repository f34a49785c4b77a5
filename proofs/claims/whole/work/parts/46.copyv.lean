theorem j_gen {g : GT} {d : Nat} {M : MM} {Z : Value → S_ → Prop} {pc : Nat} {ls st : List Value} {σ : S_} (P : S_ → Prop) (hP : P σ) (h : ∀ τ, P τ → J g d M Z pc ls st τ) : J g d M Z pc ls st σ := h σ hP
theorem upR_row {σ : S_} {a x : Nat} {f : Nat → Int32} (h : x ≠ a) : upR σ a f x = σ x := by simp [upR, h]
theorem cpy0_at {f h : Nat → Int32} {n j : Nat} (hj : j < n) : va_cpy f h 0 0 n j = f j := by
  unfold va_cpy
  rw [if_pos ⟨Nat.zero_le _, by omega⟩]
  congr 1
  omega
theorem cpyR_at {σ : S_} {a n j : Nat} {f h : Nat → Int32} (hj : j < n) : upR σ a (va_cpy f h 0 0 n) a j = f j := by rw [upR_self]; exact cpy0_at hj
theorem txcp_row {σ : S_} {t s x : Nat} (h0 : x ≠ t) (h1 : x ≠ t + 1) (h2 : x ≠ t + 2) : txcp σ t s x = σ x := by
  unfold txcp
  rw [up_row h0, upR_row h2, upR_row h1]
theorem txcp_1 {σ : S_} {t s j : Nat} (hj : j < 60) : txcp σ t s (t + 1) j = σ (s + 1) j := by
  unfold txcp
  rw [up_row (by omega), upR_row (by omega)]
  exact cpyR_at hj
theorem txcp_2 {σ : S_} {t s j : Nat} (hj : j < 60) (h : t + 3 < s ∨ s + 3 < t) : txcp σ t s (t + 2) j = σ (s + 2) j := by
  unfold txcp
  rw [up_row (by omega)]
  exact (cpyR_at hj).trans (congrFun (upR_row (by omega)) j)
theorem txcp_3 {σ : S_} {t s : Nat} (h : t + 3 < s ∨ s + 3 < t) : txcp σ t s t 3 = σ s 3 := by
  unfold txcp
  rw [up_at, upR_row (by omega), upR_row (by omega)]
theorem TX_8 {i : Nat} (h : i < 2) : TX (23 + 4 * i) := by rcases (show i = 0 ∨ i = 1 by omega) with rfl | rfl <;> simp [TX]
theorem TX_31 {i : Nat} (h : i < 2) : TX (46 + 4 * i) := by rcases (show i = 0 ∨ i = 1 by omega) with rfl | rfl <;> simp [TX]
theorem rf_tx8 {i : Nat} (h : i < 2) : rf 14 i = 23 + 4 * i := by rcases (show i = 0 ∨ i = 1 by omega) with rfl | rfl <;> rfl
theorem rf_tx31 {i : Nat} (h : i < 2) : rf 37 i = 46 + 4 * i := by rcases (show i = 0 ∨ i = 1 by omega) with rfl | rfl <;> rfl
abbrev wcK (c k : Nat) : Prop := (c = 0 ∧ (k = 1 ∨ k = 4 ∨ k = 6 ∨ k = 7 ∨ k = 8 ∨ k = 10 ∨ k = 13)) ∨ ((c = 2 ∨ c = 3) ∧ k < 4) ∨ (c = 4 ∧ k < 3) ∨ (c = 5 ∧ k < 60) ∨ (c = 7 ∧ k < 24) ∨ (8 ≤ c ∧ c < 15 ∧ k < 6) ∨ ((c = 15 ∨ c = 19) ∧ k = 3) ∨ ((c = 16 ∨ c = 17 ∨ c = 20 ∨ c = 21) ∧ k < 60)
/-- the World from A on is as the World from B on was -/
def wcp (A B : Nat) (σ τ : S_) : Prop := (∀ c k, wcK c k → τ (A + c) k = σ (B + c) k) ∧ ∀ x, ¬ (A ≤ x ∧ x < A + 23) → τ x = σ x
theorem ct_loop8 {g : GT} {Z : Value → S_ → Prop} {σ0 : S_} (hZ : ∀ τ : S_, (∀ n, n < 2 → τ (23 + 4 * n) 3 = σ0 (46 + 4 * n) 3 ∧ (∀ j, j < 60 → τ (23 + 4 * n + 1) j = σ0 (46 + 4 * n + 1) j) ∧ ∀ j, j < 60 → τ (23 + 4 * n + 2) j = σ0 (46 + 4 * n + 2) j) → (∀ x, ¬ (23 ≤ x ∧ x < 23 + 8) → τ x = σ0 x) → J g 3 M_X6_copyFrom Z 64 [.ref 8, .ref 31, .int (nI 2)] [] τ) : ∀ (k i : Nat) (σ : S_), i + k = 2 → (∀ n, n < i → σ (23 + 4 * n) 3 = σ0 (46 + 4 * n) 3 ∧ (∀ j, j < 60 → σ (23 + 4 * n + 1) j = σ0 (46 + 4 * n + 1) j) ∧ ∀ j, j < 60 → σ (23 + 4 * n + 2) j = σ0 (46 + 4 * n + 2) j) → (∀ x, ¬ (23 ≤ x ∧ x < 23 + 4 * i) → σ x = σ0 x) → J g 3 M_X6_copyFrom Z 34 [.ref 8, .ref 31, .int (nI i)] [] σ := by
  intro k
  induction k with
  | zero =>
    intro i σ hik hw hO
    refine j_iload_n dX6_copyFrom_34 (q := 35) rfl rfl ?_
    refine j_aload_n dX6_copyFrom_35 (q := 36) rfl rfl ?_
    refine j_getR (r := 14) fs_X6_37 rfl rfl rfl dX6_copyFrom_36 (q := 39) rfl ?_
    refine j_alen (n := 2) (.inr (.inr rfl)) dX6_copyFrom_39 (q := 40) rfl ?_
    refine j_icmp_geN (by omega) (by omega) dX6_copyFrom_40 (t := 64) (by decide) (q := 43) rfl (fun c_40 => ?_) (fun c_40 => ?_)
    · skip
      obtain rfl : i = 2 := by omega
      exact hZ σ hw hO
    · skip
      omega
  | succ k ih =>
    intro i σ hik hw hO
    refine j_iload_n dX6_copyFrom_34 (q := 35) rfl rfl ?_
    refine j_aload_n dX6_copyFrom_35 (q := 36) rfl rfl ?_
    refine j_getR (r := 14) fs_X6_37 rfl rfl rfl dX6_copyFrom_36 (q := 39) rfl ?_
    refine j_alen (n := 2) (.inr (.inr rfl)) dX6_copyFrom_39 (q := 40) rfl ?_
    refine j_icmp_geN (by omega) (by omega) dX6_copyFrom_40 (t := 64) (by decide) (q := 43) rfl (fun c_40 => ?_) (fun c_40 => ?_)
    · skip
      omega
    · skip
      refine j_aload_n dX6_copyFrom_43 (q := 44) rfl rfl ?_
      refine j_getR (r := 14) fs_X6_37 rfl rfl rfl dX6_copyFrom_44 (q := 47) rfl ?_
      refine j_iload_n dX6_copyFrom_47 (q := 48) rfl rfl ?_
      refine j_aaldN rfl (by omega) (rf_tx8 (by omega)) dX6_copyFrom_48 (q := 49) rfl ?_
      refine j_aload_n dX6_copyFrom_49 (q := 50) rfl rfl ?_
      refine j_getR (r := 37) fs_X6_37 rfl rfl rfl dX6_copyFrom_50 (q := 53) rfl ?_
      refine j_iload_n dX6_copyFrom_53 (q := 54) rfl rfl ?_
      refine j_aaldN rfl (by omega) (rf_tx31 (by omega)) dX6_copyFrom_54 (q := 55) rfl ?_
      refine j_callVv1E (M' := M_X3_copyFrom) lk_X6_50 mv_X3_copyFrom (ob_of (TX_8 (by omega)).o rfl) (by decide) (Nat.le_of_ble_eq_true rfl) dX6_copyFrom_55 (q := 58) rfl (ct_X3_copyFrom (TX_8 (by omega)) (TX_31 (by omega))) ?_
      refine j_iincN_3_2 dX6_copyFrom_58 (q := 61) rfl rfl rfl ?_
      refine j_goto (q := 34) dX6_copyFrom_61 (by decide) ?_
      refine ih (i + 1) (txcp σ (23 + 4 * i) (46 + 4 * i)) (by omega) (fun n hn => ?_) (fun x hx => (txcp_row (by omega) (by omega) (by omega)).trans (hO x (by omega)))
      by_cases e : n = i
      · subst e
        refine ⟨(txcp_3 (by omega)).trans (congrFun (hO _ (by omega)) 3), fun j hj => (txcp_1 hj).trans (congrFun (hO _ (by omega)) j), fun j hj => (txcp_2 hj (by omega)).trans (congrFun (hO _ (by omega)) j)⟩
      · obtain ⟨q1, q2, q3⟩ := hw n (by omega)
        refine ⟨(congrFun (txcp_row (by omega) (by omega) (by omega)) 3).trans q1, fun j hj => (congrFun (txcp_row (by omega) (by omega) (by omega)) j).trans (q2 j hj), fun j hj => (congrFun (txcp_row (by omega) (by omega) (by omega)) j).trans (q3 j hj)⟩
theorem cw_rest8 {g : GT} {σ0 τ0 : S_} (hf : ∀ n, n < 7 → ∀ m, m < 6 → τ0 (16 + n) m = σ0 (39 + n) m) (ht : ∀ n, n < 2 → τ0 (23 + 4 * n) 3 = σ0 (46 + 4 * n) 3 ∧ (∀ j, j < 60 → τ0 (23 + 4 * n + 1) j = σ0 (46 + 4 * n + 1) j) ∧ ∀ j, j < 60 → τ0 (23 + 4 * n + 2) j = σ0 (46 + 4 * n + 2) j) (h0 : ∀ x, ¬ (16 ≤ x ∧ x < 16 + 7) → ¬ (23 ≤ x ∧ x < 23 + 8) → τ0 x = σ0 x) : J g 3 M_X6_copyFrom (fun r τ => r = .null ∧ wcp 8 31 σ0 τ) 64 [.ref 8, .ref 31, .int (nI 2)] [] τ0 := by
  refine j_aload_n dX6_copyFrom_64 (q := 65) rfl rfl ?_
  refine j_getR (r := 33) fs_X6_17 rfl rfl rfl dX6_copyFrom_65 (q := 68) rfl ?_
  refine j_iconst (v := 0) dX6_copyFrom_68 (q := 69) rfl (by decide) ?_
  refine j_aload_n dX6_copyFrom_69 (q := 70) rfl rfl ?_
  refine j_getR (r := 10) fs_X6_17 rfl rfl rfl dX6_copyFrom_70 (q := 73) rfl ?_
  refine j_iconst (v := 0) dX6_copyFrom_73 (q := 74) rfl (by decide) ?_
  refine j_aload_n dX6_copyFrom_74 (q := 75) rfl rfl ?_
  refine j_getR (r := 10) fs_X6_17 rfl rfl rfl dX6_copyFrom_75 (q := 78) rfl ?_
  refine j_alen (n := 4) (.inl rfl) dX6_copyFrom_78 (q := 79) rfl ?_
  refine j_copyI rfl rfl lk_X6_53 ac_n ac_s ac_i (by decide) (Nat.le_of_ble_eq_true rfl) (by decide) (by decide) (by decide) (by decide) (by decide) dX6_copyFrom_79 (q := 82) rfl ?_
  refine j_gen (fun u => (∀ i, i < 4 → u 10 i = τ0 33 i) ∧ ∀ x, x ≠ 10 → u x = τ0 x) ⟨fun i hi => cpyR_at hi, fun x hx => upR_row hx⟩ (fun τ1 e1 => ?_)
  obtain ⟨w1, r1⟩ := e1
  refine j_aload_n dX6_copyFrom_82 (q := 83) rfl rfl ?_
  refine j_getR (r := 34) fs_X6_21 rfl rfl rfl dX6_copyFrom_83 (q := 86) rfl ?_
  refine j_iconst (v := 0) dX6_copyFrom_86 (q := 87) rfl (by decide) ?_
  refine j_aload_n dX6_copyFrom_87 (q := 88) rfl rfl ?_
  refine j_getR (r := 11) fs_X6_21 rfl rfl rfl dX6_copyFrom_88 (q := 91) rfl ?_
  refine j_iconst (v := 0) dX6_copyFrom_91 (q := 92) rfl (by decide) ?_
  refine j_aload_n dX6_copyFrom_92 (q := 93) rfl rfl ?_
  refine j_getR (r := 11) fs_X6_21 rfl rfl rfl dX6_copyFrom_93 (q := 96) rfl ?_
  refine j_alen (n := 4) (.inl rfl) dX6_copyFrom_96 (q := 97) rfl ?_
  refine j_copyI rfl rfl lk_X6_53 ac_n ac_s ac_i (by decide) (Nat.le_of_ble_eq_true rfl) (by decide) (by decide) (by decide) (by decide) (by decide) dX6_copyFrom_97 (q := 100) rfl ?_
  refine j_gen (fun u => (∀ i, i < 4 → u 11 i = τ1 34 i) ∧ ∀ x, x ≠ 11 → u x = τ1 x) ⟨fun i hi => cpyR_at hi, fun x hx => upR_row hx⟩ (fun τ2 e2 => ?_)
  obtain ⟨w2, r2⟩ := e2
  refine j_aload_n dX6_copyFrom_100 (q := 101) rfl rfl ?_
  refine j_getR (r := 35) fs_X6_24 rfl rfl rfl dX6_copyFrom_101 (q := 104) rfl ?_
  refine j_iconst (v := 0) dX6_copyFrom_104 (q := 105) rfl (by decide) ?_
  refine j_aload_n dX6_copyFrom_105 (q := 106) rfl rfl ?_
  refine j_getR (r := 12) fs_X6_24 rfl rfl rfl dX6_copyFrom_106 (q := 109) rfl ?_
  refine j_iconst (v := 0) dX6_copyFrom_109 (q := 110) rfl (by decide) ?_
  refine j_aload_n dX6_copyFrom_110 (q := 111) rfl rfl ?_
  refine j_getR (r := 12) fs_X6_24 rfl rfl rfl dX6_copyFrom_111 (q := 114) rfl ?_
  refine j_alen (n := 3) (.inl rfl) dX6_copyFrom_114 (q := 115) rfl ?_
  refine j_copyI rfl rfl lk_X6_53 ac_n ac_s ac_i (by decide) (Nat.le_of_ble_eq_true rfl) (by decide) (by decide) (by decide) (by decide) (by decide) dX6_copyFrom_115 (q := 118) rfl ?_
  refine j_gen (fun u => (∀ i, i < 3 → u 12 i = τ2 35 i) ∧ ∀ x, x ≠ 12 → u x = τ2 x) ⟨fun i hi => cpyR_at hi, fun x hx => upR_row hx⟩ (fun τ3 e3 => ?_)
  obtain ⟨w3, r3⟩ := e3
  refine j_aload_n dX6_copyFrom_118 (q := 119) rfl rfl ?_
  refine j_getR (r := 36) fs_X6_31 rfl rfl rfl dX6_copyFrom_119 (q := 122) rfl ?_
  refine j_iconst (v := 0) dX6_copyFrom_122 (q := 123) rfl (by decide) ?_
  refine j_aload_n dX6_copyFrom_123 (q := 124) rfl rfl ?_
  refine j_getR (r := 13) fs_X6_31 rfl rfl rfl dX6_copyFrom_124 (q := 127) rfl ?_
  refine j_iconst (v := 0) dX6_copyFrom_127 (q := 128) rfl (by decide) ?_
  refine j_aload_n dX6_copyFrom_128 (q := 129) rfl rfl ?_
  refine j_getR (r := 13) fs_X6_31 rfl rfl rfl dX6_copyFrom_129 (q := 132) rfl ?_
  refine j_alen (n := 60) (.inr (.inl rfl)) dX6_copyFrom_132 (q := 133) rfl ?_
  refine j_copyB rfl rfl lk_X6_53 ac_n ac_s ac_i (by decide) (Nat.le_of_ble_eq_true rfl) (by decide) (by decide) (by decide) (by decide) (by decide) dX6_copyFrom_133 (q := 136) rfl ?_
  refine j_gen (fun u => (∀ i, i < 60 → u 13 i = τ3 36 i) ∧ ∀ x, x ≠ 13 → u x = τ3 x) ⟨fun i hi => cpyR_at hi, fun x hx => upR_row hx⟩ (fun τ4 e4 => ?_)
  obtain ⟨w4, r4⟩ := e4
  refine j_aload_n dX6_copyFrom_136 (q := 137) rfl rfl ?_
  refine j_getR (r := 38) fs_X6_41 rfl rfl rfl dX6_copyFrom_137 (q := 140) rfl ?_
  refine j_iconst (v := 0) dX6_copyFrom_140 (q := 141) rfl (by decide) ?_
  refine j_aload_n dX6_copyFrom_141 (q := 142) rfl rfl ?_
  refine j_getR (r := 15) fs_X6_41 rfl rfl rfl dX6_copyFrom_142 (q := 145) rfl ?_
  refine j_iconst (v := 0) dX6_copyFrom_145 (q := 146) rfl (by decide) ?_
  refine j_aload_n dX6_copyFrom_146 (q := 147) rfl rfl ?_
  refine j_getR (r := 15) fs_X6_41 rfl rfl rfl dX6_copyFrom_147 (q := 150) rfl ?_
  refine j_alen (n := 24) (.inl rfl) dX6_copyFrom_150 (q := 151) rfl ?_
  refine j_copyI rfl rfl lk_X6_53 ac_n ac_s ac_i (by decide) (Nat.le_of_ble_eq_true rfl) (by decide) (by decide) (by decide) (by decide) (by decide) dX6_copyFrom_151 (q := 154) rfl ?_
  refine j_gen (fun u => (∀ i, i < 24 → u 15 i = τ4 38 i) ∧ ∀ x, x ≠ 15 → u x = τ4 x) ⟨fun i hi => cpyR_at hi, fun x hx => upR_row hx⟩ (fun τ5 e5 => ?_)
  obtain ⟨w5, r5⟩ := e5
  have rA : ∀ x, x ≠ 10 → x ≠ 11 → x ≠ 12 → x ≠ 13 → x ≠ 15 → τ5 x = τ0 x := fun x q2 q3 q4 q5 q7 => (r5 x q7).trans ((r4 x q5).trans ((r3 x q4).trans ((r2 x q3).trans (r1 x q2))))
  have rB : τ5 31 = σ0 31 := (rA 31 (by decide) (by decide) (by decide) (by decide) (by decide)).trans (h0 31 (by omega) (by omega))
  have u : ∀ x, x ≠ 8 → (up (up (up (up (up (up (up τ5 8 1 (σ0 31 1)) 8 4 (σ0 31 4)) 8 6 (σ0 31 6)) 8 7 (σ0 31 7)) 8 8 (σ0 31 8)) 8 10 (σ0 31 10)) 8 13 (σ0 31 13)) x = τ5 x := fun x hx => by rw [up_row hx, up_row hx, up_row hx, up_row hx, up_row hx, up_row hx, up_row hx]
  refine j_aload_n dX6_copyFrom_154 (q := 155) rfl rfl ?_
  refine j_aload_n dX6_copyFrom_155 (q := 156) rfl rfl ?_
  refine j_getIV fs_X6_59 rfl rfl (congrFun rB 1) dX6_copyFrom_156 (q := 159) rfl ?_
  refine j_putI fs_X6_59 rfl rfl fp_6_1 dX6_copyFrom_159 (q := 162) rfl ?_
  refine j_aload_n dX6_copyFrom_162 (q := 163) rfl rfl ?_
  refine j_aload_n dX6_copyFrom_163 (q := 164) rfl rfl ?_
  refine j_getIV fs_X6_62 rfl rfl ((up_nc (by decide)).trans (congrFun rB 4)) dX6_copyFrom_164 (q := 167) rfl ?_
  refine j_putI fs_X6_62 rfl rfl fp_6_4 dX6_copyFrom_167 (q := 170) rfl ?_
  refine j_aload_n dX6_copyFrom_170 (q := 171) rfl rfl ?_
  refine j_aload_n dX6_copyFrom_171 (q := 172) rfl rfl ?_
  refine j_getIV fs_X6_65 rfl rfl ((up_nc (by decide)).trans ((up_nc (by decide)).trans (congrFun rB 6))) dX6_copyFrom_172 (q := 175) rfl ?_
  refine j_putI fs_X6_65 rfl rfl fp_6_6 dX6_copyFrom_175 (q := 178) rfl ?_
  refine j_aload_n dX6_copyFrom_178 (q := 179) rfl rfl ?_
  refine j_aload_n dX6_copyFrom_179 (q := 180) rfl rfl ?_
  refine j_getIV fs_X6_68 rfl rfl ((up_nc (by decide)).trans ((up_nc (by decide)).trans ((up_nc (by decide)).trans (congrFun rB 7)))) dX6_copyFrom_180 (q := 183) rfl ?_
  refine j_putI fs_X6_68 rfl rfl fp_6_7 dX6_copyFrom_183 (q := 186) rfl ?_
  refine j_aload_n dX6_copyFrom_186 (q := 187) rfl rfl ?_
  refine j_aload_n dX6_copyFrom_187 (q := 188) rfl rfl ?_
  refine j_getIV fs_X6_27 rfl rfl ((up_nc (by decide)).trans ((up_nc (by decide)).trans ((up_nc (by decide)).trans ((up_nc (by decide)).trans (congrFun rB 8))))) dX6_copyFrom_188 (q := 191) rfl ?_
  refine j_putI fs_X6_27 rfl rfl fp_6_8 dX6_copyFrom_191 (q := 194) rfl ?_
  refine j_aload_n dX6_copyFrom_194 (q := 195) rfl rfl ?_
  refine j_aload_n dX6_copyFrom_195 (q := 196) rfl rfl ?_
  refine j_getIV fs_X6_71 rfl rfl ((up_nc (by decide)).trans ((up_nc (by decide)).trans ((up_nc (by decide)).trans ((up_nc (by decide)).trans ((up_nc (by decide)).trans (congrFun rB 10)))))) dX6_copyFrom_196 (q := 199) rfl ?_
  refine j_putI fs_X6_71 rfl rfl fp_6_10 dX6_copyFrom_199 (q := 202) rfl ?_
  refine j_aload_n dX6_copyFrom_202 (q := 203) rfl rfl ?_
  refine j_aload_n dX6_copyFrom_203 (q := 204) rfl rfl ?_
  refine j_getIV fs_X6_74 rfl rfl ((up_nc (by decide)).trans ((up_nc (by decide)).trans ((up_nc (by decide)).trans ((up_nc (by decide)).trans ((up_nc (by decide)).trans ((up_nc (by decide)).trans (congrFun rB 13))))))) dX6_copyFrom_204 (q := 207) rfl ?_
  refine j_putI fs_X6_74 rfl rfl fp_6_13 dX6_copyFrom_207 (q := 210) rfl ?_
  refine j_vret dX6_copyFrom_210 rfl ?_
  refine ⟨rfl, fun c k hk => ?_, fun x hx => ?_⟩
  · rcases hk with ⟨rfl, hk⟩ | ⟨rfl | rfl, hk⟩ | ⟨rfl, hk⟩ | ⟨rfl, hk⟩ | ⟨rfl, hk⟩ | ⟨h1, h2, hk⟩ | ⟨rfl | rfl, rfl⟩ | ⟨rfl | rfl | rfl | rfl, hk⟩
    · rcases hk with rfl | rfl | rfl | rfl | rfl | rfl | rfl <;> simp [up]
    · rw [u 10 (by decide), r5 _ (by decide), r4 _ (by decide), r3 _ (by decide), r2 _ (by decide), w1 k hk, h0 _ (by omega) (by omega)]
    · rw [u 11 (by decide), r5 _ (by decide), r4 _ (by decide), r3 _ (by decide), w2 k hk, r1 _ (by decide), h0 _ (by omega) (by omega)]
    · rw [u 12 (by decide), r5 _ (by decide), r4 _ (by decide), w3 k hk, r2 _ (by decide), r1 _ (by decide), h0 _ (by omega) (by omega)]
    · rw [u 13 (by decide), r5 _ (by decide), w4 k hk, r3 _ (by decide), r2 _ (by decide), r1 _ (by decide), h0 _ (by omega) (by omega)]
    · rw [u 15 (by decide), w5 k hk, r4 _ (by decide), r3 _ (by decide), r2 _ (by decide), r1 _ (by decide), h0 _ (by omega) (by omega)]
    · obtain ⟨n, rfl⟩ : ∃ n, c = 8 + n := ⟨c - 8, by omega⟩
      have e := hf n (by omega) k hk
      rw [show 8 + (8 + n) = 16 + n by omega, show 31 + (8 + n) = 39 + n by omega, u _ (by omega), ← e]
      exact congrFun (rA _ (by omega) (by omega) (by omega) (by omega) (by omega)) k
    · exact (congrFun ((u 23 (by decide)).trans (rA _ (by decide) (by decide) (by decide) (by decide) (by decide))) 3).trans (ht 0 (by decide)).1
    · exact (congrFun ((u 27 (by decide)).trans (rA _ (by decide) (by decide) (by decide) (by decide) (by decide))) 3).trans (ht 1 (by decide)).1
    · exact (congrFun ((u 24 (by decide)).trans (rA _ (by decide) (by decide) (by decide) (by decide) (by decide))) k).trans ((ht 0 (by decide)).2.1 k hk)
    · exact (congrFun ((u 25 (by decide)).trans (rA _ (by decide) (by decide) (by decide) (by decide) (by decide))) k).trans ((ht 0 (by decide)).2.2 k hk)
    · exact (congrFun ((u 28 (by decide)).trans (rA _ (by decide) (by decide) (by decide) (by decide) (by decide))) k).trans ((ht 1 (by decide)).2.1 k hk)
    · exact (congrFun ((u 29 (by decide)).trans (rA _ (by decide) (by decide) (by decide) (by decide) (by decide))) k).trans ((ht 1 (by decide)).2.2 k hk)
  · exact (u x (by omega)).trans ((rA x (by omega) (by omega) (by omega) (by omega) (by omega)).trans (h0 x (by omega) (by omega)))
theorem ct_X6_copyFrom_8 {g : GT} {σ : S_}  : CT g 3 M_X6_copyFrom [.ref 8, .ref 31] σ (fun r τ => r = .null ∧ wcp 8 31 σ τ) := by
  refine ct_of [.ref 8, .ref 31, .null] pn_X6_copyFrom rfl (Nat.le_of_ble_eq_true rfl) ?_
  refine j_iconst (v := 0) dX6_copyFrom_0 (q := 1) rfl (by decide) ?_
  refine j_istore_n_3_2 dX6_copyFrom_1 (q := 2) rfl rfl rfl ?_
  refine cf_loop8 (σ0 := σ) (fun τ hf h1 => ?_) 7 0 σ (by decide) (fun n hn => absurd hn (by omega)) (fun _ _ => rfl)
  refine j_iconst (v := 0) dX6_copyFrom_32 (q := 33) rfl (by decide) ?_
  refine j_istore_n_3_2 dX6_copyFrom_33 (q := 34) rfl rfl rfl ?_
  refine ct_loop8 (σ0 := τ) (fun τ2 ht h2 => ?_) 2 0 τ (by decide) (fun n hn => absurd hn (by omega)) (fun _ _ => rfl)
  refine cw_rest8 (fun n hn m hm => (congrFun (h2 _ (by omega)) m).trans (hf n hn m hm)) (fun n hn => ?_) (fun x q1 q2 => (h2 x q2).trans (h1 x q1))
  obtain ⟨a1, a2, a3⟩ := ht n hn
  exact ⟨a1.trans (congrFun (h1 _ (by omega)) 3), fun j hj => (a2 j hj).trans (congrFun (h1 _ (by omega)) j), fun j hj => (a3 j hj).trans (congrFun (h1 _ (by omega)) j)⟩
theorem ct_loop31 {g : GT} {Z : Value → S_ → Prop} {σ0 : S_} (hZ : ∀ τ : S_, (∀ n, n < 2 → τ (46 + 4 * n) 3 = σ0 (23 + 4 * n) 3 ∧ (∀ j, j < 60 → τ (46 + 4 * n + 1) j = σ0 (23 + 4 * n + 1) j) ∧ ∀ j, j < 60 → τ (46 + 4 * n + 2) j = σ0 (23 + 4 * n + 2) j) → (∀ x, ¬ (46 ≤ x ∧ x < 46 + 8) → τ x = σ0 x) → J g 3 M_X6_copyFrom Z 64 [.ref 31, .ref 8, .int (nI 2)] [] τ) : ∀ (k i : Nat) (σ : S_), i + k = 2 → (∀ n, n < i → σ (46 + 4 * n) 3 = σ0 (23 + 4 * n) 3 ∧ (∀ j, j < 60 → σ (46 + 4 * n + 1) j = σ0 (23 + 4 * n + 1) j) ∧ ∀ j, j < 60 → σ (46 + 4 * n + 2) j = σ0 (23 + 4 * n + 2) j) → (∀ x, ¬ (46 ≤ x ∧ x < 46 + 4 * i) → σ x = σ0 x) → J g 3 M_X6_copyFrom Z 34 [.ref 31, .ref 8, .int (nI i)] [] σ := by
  intro k
  induction k with
  | zero =>
    intro i σ hik hw hO
    refine j_iload_n dX6_copyFrom_34 (q := 35) rfl rfl ?_
    refine j_aload_n dX6_copyFrom_35 (q := 36) rfl rfl ?_
    refine j_getR (r := 37) fs_X6_37 rfl rfl rfl dX6_copyFrom_36 (q := 39) rfl ?_
    refine j_alen (n := 2) (.inr (.inr rfl)) dX6_copyFrom_39 (q := 40) rfl ?_
    refine j_icmp_geN (by omega) (by omega) dX6_copyFrom_40 (t := 64) (by decide) (q := 43) rfl (fun c_40 => ?_) (fun c_40 => ?_)
    · skip
      obtain rfl : i = 2 := by omega
      exact hZ σ hw hO
    · skip
      omega
  | succ k ih =>
    intro i σ hik hw hO
    refine j_iload_n dX6_copyFrom_34 (q := 35) rfl rfl ?_
    refine j_aload_n dX6_copyFrom_35 (q := 36) rfl rfl ?_
    refine j_getR (r := 37) fs_X6_37 rfl rfl rfl dX6_copyFrom_36 (q := 39) rfl ?_
    refine j_alen (n := 2) (.inr (.inr rfl)) dX6_copyFrom_39 (q := 40) rfl ?_
    refine j_icmp_geN (by omega) (by omega) dX6_copyFrom_40 (t := 64) (by decide) (q := 43) rfl (fun c_40 => ?_) (fun c_40 => ?_)
    · skip
      omega
    · skip
      refine j_aload_n dX6_copyFrom_43 (q := 44) rfl rfl ?_
      refine j_getR (r := 37) fs_X6_37 rfl rfl rfl dX6_copyFrom_44 (q := 47) rfl ?_
      refine j_iload_n dX6_copyFrom_47 (q := 48) rfl rfl ?_
      refine j_aaldN rfl (by omega) (rf_tx31 (by omega)) dX6_copyFrom_48 (q := 49) rfl ?_
      refine j_aload_n dX6_copyFrom_49 (q := 50) rfl rfl ?_
      refine j_getR (r := 14) fs_X6_37 rfl rfl rfl dX6_copyFrom_50 (q := 53) rfl ?_
      refine j_iload_n dX6_copyFrom_53 (q := 54) rfl rfl ?_
      refine j_aaldN rfl (by omega) (rf_tx8 (by omega)) dX6_copyFrom_54 (q := 55) rfl ?_
      refine j_callVv1E (M' := M_X3_copyFrom) lk_X6_50 mv_X3_copyFrom (ob_of (TX_31 (by omega)).o rfl) (by decide) (Nat.le_of_ble_eq_true rfl) dX6_copyFrom_55 (q := 58) rfl (ct_X3_copyFrom (TX_31 (by omega)) (TX_8 (by omega))) ?_
      refine j_iincN_3_2 dX6_copyFrom_58 (q := 61) rfl rfl rfl ?_
      refine j_goto (q := 34) dX6_copyFrom_61 (by decide) ?_
      refine ih (i + 1) (txcp σ (46 + 4 * i) (23 + 4 * i)) (by omega) (fun n hn => ?_) (fun x hx => (txcp_row (by omega) (by omega) (by omega)).trans (hO x (by omega)))
      by_cases e : n = i
      · subst e
        refine ⟨(txcp_3 (by omega)).trans (congrFun (hO _ (by omega)) 3), fun j hj => (txcp_1 hj).trans (congrFun (hO _ (by omega)) j), fun j hj => (txcp_2 hj (by omega)).trans (congrFun (hO _ (by omega)) j)⟩
      · obtain ⟨q1, q2, q3⟩ := hw n (by omega)
        refine ⟨(congrFun (txcp_row (by omega) (by omega) (by omega)) 3).trans q1, fun j hj => (congrFun (txcp_row (by omega) (by omega) (by omega)) j).trans (q2 j hj), fun j hj => (congrFun (txcp_row (by omega) (by omega) (by omega)) j).trans (q3 j hj)⟩
theorem cw_rest31 {g : GT} {σ0 τ0 : S_} (hf : ∀ n, n < 7 → ∀ m, m < 6 → τ0 (39 + n) m = σ0 (16 + n) m) (ht : ∀ n, n < 2 → τ0 (46 + 4 * n) 3 = σ0 (23 + 4 * n) 3 ∧ (∀ j, j < 60 → τ0 (46 + 4 * n + 1) j = σ0 (23 + 4 * n + 1) j) ∧ ∀ j, j < 60 → τ0 (46 + 4 * n + 2) j = σ0 (23 + 4 * n + 2) j) (h0 : ∀ x, ¬ (39 ≤ x ∧ x < 39 + 7) → ¬ (46 ≤ x ∧ x < 46 + 8) → τ0 x = σ0 x) : J g 3 M_X6_copyFrom (fun r τ => r = .null ∧ wcp 31 8 σ0 τ) 64 [.ref 31, .ref 8, .int (nI 2)] [] τ0 := by
  refine j_aload_n dX6_copyFrom_64 (q := 65) rfl rfl ?_
  refine j_getR (r := 10) fs_X6_17 rfl rfl rfl dX6_copyFrom_65 (q := 68) rfl ?_
  refine j_iconst (v := 0) dX6_copyFrom_68 (q := 69) rfl (by decide) ?_
  refine j_aload_n dX6_copyFrom_69 (q := 70) rfl rfl ?_
  refine j_getR (r := 33) fs_X6_17 rfl rfl rfl dX6_copyFrom_70 (q := 73) rfl ?_
  refine j_iconst (v := 0) dX6_copyFrom_73 (q := 74) rfl (by decide) ?_
  refine j_aload_n dX6_copyFrom_74 (q := 75) rfl rfl ?_
  refine j_getR (r := 33) fs_X6_17 rfl rfl rfl dX6_copyFrom_75 (q := 78) rfl ?_
  refine j_alen (n := 4) (.inl rfl) dX6_copyFrom_78 (q := 79) rfl ?_
  refine j_copyI rfl rfl lk_X6_53 ac_n ac_s ac_i (by decide) (Nat.le_of_ble_eq_true rfl) (by decide) (by decide) (by decide) (by decide) (by decide) dX6_copyFrom_79 (q := 82) rfl ?_
  refine j_gen (fun u => (∀ i, i < 4 → u 33 i = τ0 10 i) ∧ ∀ x, x ≠ 33 → u x = τ0 x) ⟨fun i hi => cpyR_at hi, fun x hx => upR_row hx⟩ (fun τ1 e1 => ?_)
  obtain ⟨w1, r1⟩ := e1
  refine j_aload_n dX6_copyFrom_82 (q := 83) rfl rfl ?_
  refine j_getR (r := 11) fs_X6_21 rfl rfl rfl dX6_copyFrom_83 (q := 86) rfl ?_
  refine j_iconst (v := 0) dX6_copyFrom_86 (q := 87) rfl (by decide) ?_
  refine j_aload_n dX6_copyFrom_87 (q := 88) rfl rfl ?_
  refine j_getR (r := 34) fs_X6_21 rfl rfl rfl dX6_copyFrom_88 (q := 91) rfl ?_
  refine j_iconst (v := 0) dX6_copyFrom_91 (q := 92) rfl (by decide) ?_
  refine j_aload_n dX6_copyFrom_92 (q := 93) rfl rfl ?_
  refine j_getR (r := 34) fs_X6_21 rfl rfl rfl dX6_copyFrom_93 (q := 96) rfl ?_
  refine j_alen (n := 4) (.inl rfl) dX6_copyFrom_96 (q := 97) rfl ?_
  refine j_copyI rfl rfl lk_X6_53 ac_n ac_s ac_i (by decide) (Nat.le_of_ble_eq_true rfl) (by decide) (by decide) (by decide) (by decide) (by decide) dX6_copyFrom_97 (q := 100) rfl ?_
  refine j_gen (fun u => (∀ i, i < 4 → u 34 i = τ1 11 i) ∧ ∀ x, x ≠ 34 → u x = τ1 x) ⟨fun i hi => cpyR_at hi, fun x hx => upR_row hx⟩ (fun τ2 e2 => ?_)
  obtain ⟨w2, r2⟩ := e2
  refine j_aload_n dX6_copyFrom_100 (q := 101) rfl rfl ?_
  refine j_getR (r := 12) fs_X6_24 rfl rfl rfl dX6_copyFrom_101 (q := 104) rfl ?_
  refine j_iconst (v := 0) dX6_copyFrom_104 (q := 105) rfl (by decide) ?_
  refine j_aload_n dX6_copyFrom_105 (q := 106) rfl rfl ?_
  refine j_getR (r := 35) fs_X6_24 rfl rfl rfl dX6_copyFrom_106 (q := 109) rfl ?_
  refine j_iconst (v := 0) dX6_copyFrom_109 (q := 110) rfl (by decide) ?_
  refine j_aload_n dX6_copyFrom_110 (q := 111) rfl rfl ?_
  refine j_getR (r := 35) fs_X6_24 rfl rfl rfl dX6_copyFrom_111 (q := 114) rfl ?_
  refine j_alen (n := 3) (.inl rfl) dX6_copyFrom_114 (q := 115) rfl ?_
  refine j_copyI rfl rfl lk_X6_53 ac_n ac_s ac_i (by decide) (Nat.le_of_ble_eq_true rfl) (by decide) (by decide) (by decide) (by decide) (by decide) dX6_copyFrom_115 (q := 118) rfl ?_
  refine j_gen (fun u => (∀ i, i < 3 → u 35 i = τ2 12 i) ∧ ∀ x, x ≠ 35 → u x = τ2 x) ⟨fun i hi => cpyR_at hi, fun x hx => upR_row hx⟩ (fun τ3 e3 => ?_)
  obtain ⟨w3, r3⟩ := e3
  refine j_aload_n dX6_copyFrom_118 (q := 119) rfl rfl ?_
  refine j_getR (r := 13) fs_X6_31 rfl rfl rfl dX6_copyFrom_119 (q := 122) rfl ?_
  refine j_iconst (v := 0) dX6_copyFrom_122 (q := 123) rfl (by decide) ?_
  refine j_aload_n dX6_copyFrom_123 (q := 124) rfl rfl ?_
  refine j_getR (r := 36) fs_X6_31 rfl rfl rfl dX6_copyFrom_124 (q := 127) rfl ?_
  refine j_iconst (v := 0) dX6_copyFrom_127 (q := 128) rfl (by decide) ?_
  refine j_aload_n dX6_copyFrom_128 (q := 129) rfl rfl ?_
  refine j_getR (r := 36) fs_X6_31 rfl rfl rfl dX6_copyFrom_129 (q := 132) rfl ?_
  refine j_alen (n := 60) (.inr (.inl rfl)) dX6_copyFrom_132 (q := 133) rfl ?_
  refine j_copyB rfl rfl lk_X6_53 ac_n ac_s ac_i (by decide) (Nat.le_of_ble_eq_true rfl) (by decide) (by decide) (by decide) (by decide) (by decide) dX6_copyFrom_133 (q := 136) rfl ?_
  refine j_gen (fun u => (∀ i, i < 60 → u 36 i = τ3 13 i) ∧ ∀ x, x ≠ 36 → u x = τ3 x) ⟨fun i hi => cpyR_at hi, fun x hx => upR_row hx⟩ (fun τ4 e4 => ?_)
  obtain ⟨w4, r4⟩ := e4
  refine j_aload_n dX6_copyFrom_136 (q := 137) rfl rfl ?_
  refine j_getR (r := 15) fs_X6_41 rfl rfl rfl dX6_copyFrom_137 (q := 140) rfl ?_
  refine j_iconst (v := 0) dX6_copyFrom_140 (q := 141) rfl (by decide) ?_
  refine j_aload_n dX6_copyFrom_141 (q := 142) rfl rfl ?_
  refine j_getR (r := 38) fs_X6_41 rfl rfl rfl dX6_copyFrom_142 (q := 145) rfl ?_
  refine j_iconst (v := 0) dX6_copyFrom_145 (q := 146) rfl (by decide) ?_
  refine j_aload_n dX6_copyFrom_146 (q := 147) rfl rfl ?_
  refine j_getR (r := 38) fs_X6_41 rfl rfl rfl dX6_copyFrom_147 (q := 150) rfl ?_
  refine j_alen (n := 24) (.inl rfl) dX6_copyFrom_150 (q := 151) rfl ?_
  refine j_copyI rfl rfl lk_X6_53 ac_n ac_s ac_i (by decide) (Nat.le_of_ble_eq_true rfl) (by decide) (by decide) (by decide) (by decide) (by decide) dX6_copyFrom_151 (q := 154) rfl ?_
  refine j_gen (fun u => (∀ i, i < 24 → u 38 i = τ4 15 i) ∧ ∀ x, x ≠ 38 → u x = τ4 x) ⟨fun i hi => cpyR_at hi, fun x hx => upR_row hx⟩ (fun τ5 e5 => ?_)
  obtain ⟨w5, r5⟩ := e5
  have rA : ∀ x, x ≠ 33 → x ≠ 34 → x ≠ 35 → x ≠ 36 → x ≠ 38 → τ5 x = τ0 x := fun x q2 q3 q4 q5 q7 => (r5 x q7).trans ((r4 x q5).trans ((r3 x q4).trans ((r2 x q3).trans (r1 x q2))))
  have rB : τ5 8 = σ0 8 := (rA 8 (by decide) (by decide) (by decide) (by decide) (by decide)).trans (h0 8 (by omega) (by omega))
  have u : ∀ x, x ≠ 31 → (up (up (up (up (up (up (up τ5 31 1 (σ0 8 1)) 31 4 (σ0 8 4)) 31 6 (σ0 8 6)) 31 7 (σ0 8 7)) 31 8 (σ0 8 8)) 31 10 (σ0 8 10)) 31 13 (σ0 8 13)) x = τ5 x := fun x hx => by rw [up_row hx, up_row hx, up_row hx, up_row hx, up_row hx, up_row hx, up_row hx]
  refine j_aload_n dX6_copyFrom_154 (q := 155) rfl rfl ?_
  refine j_aload_n dX6_copyFrom_155 (q := 156) rfl rfl ?_
  refine j_getIV fs_X6_59 rfl rfl (congrFun rB 1) dX6_copyFrom_156 (q := 159) rfl ?_
  refine j_putI fs_X6_59 rfl rfl fp_6_1 dX6_copyFrom_159 (q := 162) rfl ?_
  refine j_aload_n dX6_copyFrom_162 (q := 163) rfl rfl ?_
  refine j_aload_n dX6_copyFrom_163 (q := 164) rfl rfl ?_
  refine j_getIV fs_X6_62 rfl rfl ((up_nc (by decide)).trans (congrFun rB 4)) dX6_copyFrom_164 (q := 167) rfl ?_
  refine j_putI fs_X6_62 rfl rfl fp_6_4 dX6_copyFrom_167 (q := 170) rfl ?_
  refine j_aload_n dX6_copyFrom_170 (q := 171) rfl rfl ?_
  refine j_aload_n dX6_copyFrom_171 (q := 172) rfl rfl ?_
  refine j_getIV fs_X6_65 rfl rfl ((up_nc (by decide)).trans ((up_nc (by decide)).trans (congrFun rB 6))) dX6_copyFrom_172 (q := 175) rfl ?_
  refine j_putI fs_X6_65 rfl rfl fp_6_6 dX6_copyFrom_175 (q := 178) rfl ?_
  refine j_aload_n dX6_copyFrom_178 (q := 179) rfl rfl ?_
  refine j_aload_n dX6_copyFrom_179 (q := 180) rfl rfl ?_
  refine j_getIV fs_X6_68 rfl rfl ((up_nc (by decide)).trans ((up_nc (by decide)).trans ((up_nc (by decide)).trans (congrFun rB 7)))) dX6_copyFrom_180 (q := 183) rfl ?_
  refine j_putI fs_X6_68 rfl rfl fp_6_7 dX6_copyFrom_183 (q := 186) rfl ?_
  refine j_aload_n dX6_copyFrom_186 (q := 187) rfl rfl ?_
  refine j_aload_n dX6_copyFrom_187 (q := 188) rfl rfl ?_
  refine j_getIV fs_X6_27 rfl rfl ((up_nc (by decide)).trans ((up_nc (by decide)).trans ((up_nc (by decide)).trans ((up_nc (by decide)).trans (congrFun rB 8))))) dX6_copyFrom_188 (q := 191) rfl ?_
  refine j_putI fs_X6_27 rfl rfl fp_6_8 dX6_copyFrom_191 (q := 194) rfl ?_
  refine j_aload_n dX6_copyFrom_194 (q := 195) rfl rfl ?_
  refine j_aload_n dX6_copyFrom_195 (q := 196) rfl rfl ?_
  refine j_getIV fs_X6_71 rfl rfl ((up_nc (by decide)).trans ((up_nc (by decide)).trans ((up_nc (by decide)).trans ((up_nc (by decide)).trans ((up_nc (by decide)).trans (congrFun rB 10)))))) dX6_copyFrom_196 (q := 199) rfl ?_
  refine j_putI fs_X6_71 rfl rfl fp_6_10 dX6_copyFrom_199 (q := 202) rfl ?_
  refine j_aload_n dX6_copyFrom_202 (q := 203) rfl rfl ?_
  refine j_aload_n dX6_copyFrom_203 (q := 204) rfl rfl ?_
  refine j_getIV fs_X6_74 rfl rfl ((up_nc (by decide)).trans ((up_nc (by decide)).trans ((up_nc (by decide)).trans ((up_nc (by decide)).trans ((up_nc (by decide)).trans ((up_nc (by decide)).trans (congrFun rB 13))))))) dX6_copyFrom_204 (q := 207) rfl ?_
  refine j_putI fs_X6_74 rfl rfl fp_6_13 dX6_copyFrom_207 (q := 210) rfl ?_
  refine j_vret dX6_copyFrom_210 rfl ?_
  refine ⟨rfl, fun c k hk => ?_, fun x hx => ?_⟩
  · rcases hk with ⟨rfl, hk⟩ | ⟨rfl | rfl, hk⟩ | ⟨rfl, hk⟩ | ⟨rfl, hk⟩ | ⟨rfl, hk⟩ | ⟨h1, h2, hk⟩ | ⟨rfl | rfl, rfl⟩ | ⟨rfl | rfl | rfl | rfl, hk⟩
    · rcases hk with rfl | rfl | rfl | rfl | rfl | rfl | rfl <;> simp [up]
    · rw [u 33 (by decide), r5 _ (by decide), r4 _ (by decide), r3 _ (by decide), r2 _ (by decide), w1 k hk, h0 _ (by omega) (by omega)]
    · rw [u 34 (by decide), r5 _ (by decide), r4 _ (by decide), r3 _ (by decide), w2 k hk, r1 _ (by decide), h0 _ (by omega) (by omega)]
    · rw [u 35 (by decide), r5 _ (by decide), r4 _ (by decide), w3 k hk, r2 _ (by decide), r1 _ (by decide), h0 _ (by omega) (by omega)]
    · rw [u 36 (by decide), r5 _ (by decide), w4 k hk, r3 _ (by decide), r2 _ (by decide), r1 _ (by decide), h0 _ (by omega) (by omega)]
    · rw [u 38 (by decide), w5 k hk, r4 _ (by decide), r3 _ (by decide), r2 _ (by decide), r1 _ (by decide), h0 _ (by omega) (by omega)]
    · obtain ⟨n, rfl⟩ : ∃ n, c = 8 + n := ⟨c - 8, by omega⟩
      have e := hf n (by omega) k hk
      rw [show 31 + (8 + n) = 39 + n by omega, show 8 + (8 + n) = 16 + n by omega, u _ (by omega), ← e]
      exact congrFun (rA _ (by omega) (by omega) (by omega) (by omega) (by omega)) k
    · exact (congrFun ((u 46 (by decide)).trans (rA _ (by decide) (by decide) (by decide) (by decide) (by decide))) 3).trans (ht 0 (by decide)).1
    · exact (congrFun ((u 50 (by decide)).trans (rA _ (by decide) (by decide) (by decide) (by decide) (by decide))) 3).trans (ht 1 (by decide)).1
    · exact (congrFun ((u 47 (by decide)).trans (rA _ (by decide) (by decide) (by decide) (by decide) (by decide))) k).trans ((ht 0 (by decide)).2.1 k hk)
    · exact (congrFun ((u 48 (by decide)).trans (rA _ (by decide) (by decide) (by decide) (by decide) (by decide))) k).trans ((ht 0 (by decide)).2.2 k hk)
    · exact (congrFun ((u 51 (by decide)).trans (rA _ (by decide) (by decide) (by decide) (by decide) (by decide))) k).trans ((ht 1 (by decide)).2.1 k hk)
    · exact (congrFun ((u 52 (by decide)).trans (rA _ (by decide) (by decide) (by decide) (by decide) (by decide))) k).trans ((ht 1 (by decide)).2.2 k hk)
  · exact (u x (by omega)).trans ((rA x (by omega) (by omega) (by omega) (by omega) (by omega)).trans (h0 x (by omega) (by omega)))
theorem ct_X6_copyFrom_31 {g : GT} {σ : S_}  : CT g 3 M_X6_copyFrom [.ref 31, .ref 8] σ (fun r τ => r = .null ∧ wcp 31 8 σ τ) := by
  refine ct_of [.ref 31, .ref 8, .null] pn_X6_copyFrom rfl (Nat.le_of_ble_eq_true rfl) ?_
  refine j_iconst (v := 0) dX6_copyFrom_0 (q := 1) rfl (by decide) ?_
  refine j_istore_n_3_2 dX6_copyFrom_1 (q := 2) rfl rfl rfl ?_
  refine cf_loop31 (σ0 := σ) (fun τ hf h1 => ?_) 7 0 σ (by decide) (fun n hn => absurd hn (by omega)) (fun _ _ => rfl)
  refine j_iconst (v := 0) dX6_copyFrom_32 (q := 33) rfl (by decide) ?_
  refine j_istore_n_3_2 dX6_copyFrom_33 (q := 34) rfl rfl rfl ?_
  refine ct_loop31 (σ0 := τ) (fun τ2 ht h2 => ?_) 2 0 τ (by decide) (fun n hn => absurd hn (by omega)) (fun _ _ => rfl)
  refine cw_rest31 (fun n hn m hm => (congrFun (h2 _ (by omega)) m).trans (hf n hn m hm)) (fun n hn => ?_) (fun x q1 q2 => (h2 x q2).trans (h1 x q1))
  obtain ⟨a1, a2, a3⟩ := ht n hn
  exact ⟨a1.trans (congrFun (h1 _ (by omega)) 3), fun j hj => (a2 j hj).trans (congrFun (h1 _ (by omega)) j), fun j hj => (a3 j hj).trans (congrFun (h1 _ (by omega)) j)⟩
theorem ct_X7_image {g : GT} {σ : S_}  : CT g 4 M_X7_image [.ref 0] σ (fun r τ => r = .int (σ 0 7 + 1) ∧ ∃ τ1, wcp 31 8 σ τ1 ∧ τ = up τ1 0 7 (σ 0 7 + 1)) := by
  refine ct_of [.ref 0] pn_X7_image rfl (Nat.le_of_ble_eq_true rfl) ?_
  refine j_aload_n dX7_image_0 (q := 1) rfl rfl ?_
  refine j_getR (r := 31) fs_X7_16 rfl rfl rfl dX7_image_1 (q := 4) rfl ?_
  refine j_aload_n dX7_image_4 (q := 5) rfl rfl ?_
  refine j_getR (r := 8) fs_X7_10 rfl rfl rfl dX7_image_5 (q := 8) rfl ?_
  refine j_callVv1 (M' := M_X6_copyFrom) lk_X7_293 mv_X6_copyFrom ob_31 (by decide) (Nat.le_of_ble_eq_true rfl) dX7_image_8 (q := 11) rfl (ct_X6_copyFrom_31) ?_
  intro τ1 hz
  obtain ⟨_, hw, hO⟩ := hz
  refine j_aload_n dX7_image_11 (q := 12) rfl rfl ?_
  refine j_dup dX7_image_12 (q := 13) rfl rfl ?_
  refine j_getIV fs_X7_295 rfl rfl (congrFun (hO 0 (by omega)) 7) dX7_image_13 (q := 16) rfl ?_
  refine j_iconst (v := 1) dX7_image_16 (q := 17) rfl (by decide) ?_
  refine j_iadd dX7_image_17 (q := 18) rfl ?_
  refine j_putI fs_X7_295 rfl rfl fp_7_7 dX7_image_18 (q := 21) rfl ?_
  refine j_aload_n dX7_image_21 (q := 22) rfl rfl ?_
  refine j_getIV fs_X7_295 rfl rfl up_at dX7_image_22 (q := 25) rfl ?_
  refine j_ireti dX7_image_25 rfl ?_
  exact ⟨rfl, τ1, ⟨hw, hO⟩, rfl⟩
theorem ct_X7_restore_no {g : GT} {σ : S_} (h : σ 0 7 = 0) : CT g 4 M_X7_restore [.ref 0] σ (EQ (.int (-1000000002)) (rfz σ 2)) := by
  refine ct_of [.ref 0] pn_X7_restore rfl (Nat.le_of_ble_eq_true rfl) ?_
  refine j_aload_n dX7_restore_0 (q := 1) rfl rfl ?_
  refine j_getI fs_X7_295 rfl rfl dX7_restore_1 (q := 4) rfl ?_
  refine j_if_ne dX7_restore_4 (t := 13) (by decide) (q := 7) rfl (fun c_4 => ?_) (fun c_4 => ?_)
  · skip
    exact absurd h c_4
  · skip
    refine j_aload_n dX7_restore_7 (q := 8) rfl rfl ?_
    refine j_iconst (v := 2) dX7_restore_8 (q := 9) rfl (by decide) ?_
    refine j_callVi1E (M' := M_X7_refuse) lk_X7_61 mv_X7_refuse ob_0 (by decide) (Nat.le_of_ble_eq_true rfl) dX7_restore_9 (q := 12) rfl (ct_ref2) ?_
    refine j_ireti dX7_restore_12 rfl ?_
    exact ⟨rfl, rfl⟩
theorem ct_X7_restore_ok {g : GT} {σ : S_} (h : ¬ σ 0 7 = 0) : CT g 4 M_X7_restore [.ref 0] σ (fun r τ => r = .int (σ 31 6) ∧ wcp 8 31 σ τ) := by
  refine ct_of [.ref 0] pn_X7_restore rfl (Nat.le_of_ble_eq_true rfl) ?_
  refine j_aload_n dX7_restore_0 (q := 1) rfl rfl ?_
  refine j_getI fs_X7_295 rfl rfl dX7_restore_1 (q := 4) rfl ?_
  refine j_if_ne dX7_restore_4 (t := 13) (by decide) (q := 7) rfl (fun c_4 => ?_) (fun c_4 => ?_)
  · skip
    refine j_aload_n dX7_restore_13 (q := 14) rfl rfl ?_
    refine j_getR (r := 8) fs_X7_10 rfl rfl rfl dX7_restore_14 (q := 17) rfl ?_
    refine j_aload_n dX7_restore_17 (q := 18) rfl rfl ?_
    refine j_getR (r := 31) fs_X7_16 rfl rfl rfl dX7_restore_18 (q := 21) rfl ?_
    refine j_callVv1 (M' := M_X6_copyFrom) lk_X7_293 mv_X6_copyFrom ob_8 (by decide) (Nat.le_of_ble_eq_true rfl) dX7_restore_21 (q := 24) rfl (ct_X6_copyFrom_8) ?_
    intro τ1 hz
    obtain ⟨_, hw, hO⟩ := hz
    refine j_aload_n dX7_restore_24 (q := 25) rfl rfl ?_
    refine j_getR (r := 8) fs_X7_10 rfl rfl rfl dX7_restore_25 (q := 28) rfl ?_
    refine j_getIV fs_X7_100 rfl rfl (hw 0 6 (by decide)) dX7_restore_28 (q := 31) rfl ?_
    refine j_ireti dX7_restore_31 rfl ?_
    exact ⟨rfl, hw, hO⟩
  · skip
    exact absurd c_4 h
theorem LM_wcK : ∀ x ∈ LM, wcK x.1 x.2.1 := by decide +kernel
theorem CW_wcp {A B : Nat} {σ τ : S_} {t t' : Nat → Int32} (hC : CW σ B t) (hw : wcp A B σ τ) (ht : ∀ k, k < 394 → t' k = t k) : CW τ A t' := by
  have hx : ∀ u, u < 2 → TXR σ t (B + 15 + 4 * u) u → TXR τ t' (A + 15 + 4 * u) u := fun u hu h => by
    have e3 : τ (A + 15 + 4 * u) 3 = σ (B + 15 + 4 * u) 3 := by rw [Nat.add_assoc, Nat.add_assoc]; exact hw.1 _ _ (by unfold wcK; omega)
    have e1 : ∀ j, j < 60 → τ (A + 15 + 4 * u + 1) j = σ (B + 15 + 4 * u + 1) j := fun j hj => by
      rw [show A + 15 + 4 * u + 1 = A + (16 + 4 * u) by omega, show B + 15 + 4 * u + 1 = B + (16 + 4 * u) by omega]; exact hw.1 _ _ (by unfold wcK; omega)
    have e2 : ∀ j, j < 60 → τ (A + 15 + 4 * u + 2) j = σ (B + 15 + 4 * u + 2) j := fun j hj => by
      rw [show A + 15 + 4 * u + 2 = A + (17 + 4 * u) by omega, show B + 15 + 4 * u + 2 = B + (17 + 4 * u) by omega]; exact hw.1 _ _ (by unfold wcK; omega)
    have h' : TXR σ t' (B + 15 + 4 * u) u := h.row (fun k _ k2 => (ht k (by omega)).symm)
    refine ⟨e3.trans h'.1, fun L hL h6 j hj => ?_⟩
    obtain ⟨q1, q2⟩ := h'.2 L hL h6 j hj
    exact ⟨(e1 j (by omega)).trans q1, (e2 j (by omega)).trans q2⟩
  refine ⟨fun x h => ?_, fun i hi => ?_, hx 0 (by decide) hC.2.2.1, hx 1 (by decide) hC.2.2.2⟩
  · obtain ⟨a1, a2, a3, a4⟩ := LM_away x h
    rw [hw.1 _ _ (LM_wcK x h), ht _ a4]
    exact hC.1 x h
  · rw [hw.1 5 i (by unfold wcK; omega), ht _ (by omega)]
    exact hC.2.1 i hi
