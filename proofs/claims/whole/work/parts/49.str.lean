theorem fs_J0_15 : Cond.fieldLink RJ0 15 "java/lang/String" "coder" "B" ∈ lw_g := mw 1343 _ (by decide +kernel) rfl
theorem fs_J0_9 : Cond.fieldLink RJ0 9 "java/lang/String" "value" "[B" ∈ lw_g := mw 1344 _ (by decide +kernel) rfl
/-- which of the NAMES of use u the byte n is; 3: none -/
def ixQ (u n : Nat) : Nat := if u = 0 then (if n = 103 then 0 else if n = 100 then 1 else if n = 104 then 2 else 3) else (if n = 112 then 0 else if n = 100 then 1 else if n = 115 then 2 else 3)
theorem j_str_aldN {g : GT} {d : Nat} {M : MM} {Z : Value → S_ → Prop} {pc q : Nat} {ls st : List Value} {σ : S_} {u j : Nat} (hu : u < 2) (hj : j < 3) (hdg : decode M.2.1 pc = .ok (.baload, 1)) (hq : pc + 1 = q) (h : J g d M Z q ls (.int ((sByt.getD (u + 1) []).getD j 0) :: st) σ) : J g d M Z pc ls (.int (nI j) :: .ref (111 + u) :: st) σ := by
  have e : 111 + u = 110 + (u + 1) := by omega
  have hl : sLen.getD (u + 1) 0 = 3 := by rcases (show u = 0 ∨ u = 1 by omega) with rfl | rfl <;> rfl
  rw [e]
  exact j_str_ald (by omega) (vp_in_nI (by rw [hl]; exact hj) (by rw [hl]; decide)) hdg hq (by rw [nI_clamp (by omega)]; exact h)
theorem bt_eq : ∀ u, u < 2 → ∀ n, n < 256 → ∀ j, j < 3 → ((sByt.getD (u + 1) []).getD j 0 = (nI n).toInt8.toInt32 ↔ ixQ u n = j) := by decide +kernel
theorem ch_eq : ∀ n, n < 256 → ((nI n).toUInt32 % 65536).toInt32 = nI n := by decide +kernel
theorem u8_in : ∀ n, n < 256 → (0 : Int32) ≤ nI n ∧ nI n ≤ 255 := by decide +kernel
theorem ixQ_le (u n : Nat) : ixQ u n ≤ 3 := by unfold ixQ; split <;> split <;> (try split) <;> (try split) <;> omega
def ixR (u n : Nat) : Int32 := if ixQ u n < 3 then nI (ixQ u n) else -1
theorem io_step {g : GT} {Z : Value → S_ → Prop} {σ : S_} {u n i : Nat} {v2 : Value} (hu : u < 2) (hn : n < 256) (hi : i < 3) (hit : ixQ u n = i → Z (.int (nI i)) σ) (go : ixQ u n ≠ i → J g 0 M_J1_indexOfChar_4cfef Z 7 [.ref (111 + u), .int (nI n), v2, .int 3, .int (nI n).toInt8.toInt32, .int (nI (i + 1))] [] σ) : J g 0 M_J1_indexOfChar_4cfef Z 7 [.ref (111 + u), .int (nI n), v2, .int 3, .int (nI n).toInt8.toInt32, .int (nI i)] [] σ := by
  refine j_iload dJ1_indexOfChar_4cfef_7 (q := 9) rfl rfl ?_
  refine j_iload_n dJ1_indexOfChar_4cfef_9 (q := 10) rfl rfl ?_
  refine j_icmp_geN (b := 3) (by omega) (by omega) dJ1_indexOfChar_4cfef_10 (t := 31) (by decide) (q := 13) rfl (fun c_10 => ?_) (fun c_10 => ?_)
  · skip
    omega
  · skip
    refine j_aload_n dJ1_indexOfChar_4cfef_13 (q := 14) rfl rfl ?_
    refine j_iload dJ1_indexOfChar_4cfef_14 (q := 16) rfl rfl ?_
    refine j_str_aldN hu (by omega) dJ1_indexOfChar_4cfef_16 (q := 17) rfl ?_
    refine j_iload dJ1_indexOfChar_4cfef_17 (q := 19) rfl rfl ?_
    refine j_icmp_ne dJ1_indexOfChar_4cfef_19 (t := 25) (by decide) (q := 22) rfl (fun c_19 => ?_) (fun c_19 => ?_)
    · skip
      refine j_iincN_6_5 dJ1_indexOfChar_4cfef_25 (q := 28) rfl rfl rfl ?_
      refine j_goto (q := 7) dJ1_indexOfChar_4cfef_28 (by decide) ?_
      exact go (fun q => c_19 ((bt_eq u hu n hn i hi).mpr q))
    · skip
      refine j_iload dJ1_indexOfChar_4cfef_22 (q := 24) rfl rfl ?_
      refine j_ireti dJ1_indexOfChar_4cfef_24 rfl ?_
      exact hit ((bt_eq u hu n hn i hi).mp (by simpa using c_19))
theorem io_end {g : GT} {Z : Value → S_ → Prop} {σ : S_} {u n : Nat} {v2 : Value} (hz : Z (.int (-1)) σ) : J g 0 M_J1_indexOfChar_4cfef Z 7 [.ref (111 + u), .int (nI n), v2, .int 3, .int (nI n).toInt8.toInt32, .int (nI 3)] [] σ := by
  refine j_iload dJ1_indexOfChar_4cfef_7 (q := 9) rfl rfl ?_
  refine j_iload_n dJ1_indexOfChar_4cfef_9 (q := 10) rfl rfl ?_
  refine j_icmp_geN (b := 3) (by omega) (by omega) dJ1_indexOfChar_4cfef_10 (t := 31) (by decide) (q := 13) rfl (fun c_10 => ?_) (fun c_10 => ?_)
  · skip
    refine j_iconst (v := (-1)) dJ1_indexOfChar_4cfef_31 (q := 32) rfl (by decide) ?_
    refine j_ireti dJ1_indexOfChar_4cfef_32 rfl ?_
    exact hz
  · skip
    omega
theorem ct_J1_indexOfChar_4cfef {g : GT} {σ : S_} {u n : Nat} (hu : u < 2) (hn : n < 256) : CT g 0 M_J1_indexOfChar_4cfef [.ref (111 + u), .int (nI n), .int 0, .int 3] σ (EQ (.int (ixR u n)) σ) := by
  refine ct_of [.ref (111 + u), .int (nI n), .int 0, .int 3, .null, .null] pn_J1_indexOfChar_4cfef rfl (Nat.le_of_ble_eq_true rfl) ?_
  refine j_iload_n dJ1_indexOfChar_4cfef_0 (q := 1) rfl rfl ?_
  refine j_i2b dJ1_indexOfChar_4cfef_1 (q := 2) rfl ?_
  refine j_istore_6_4 dJ1_indexOfChar_4cfef_2 (q := 4) rfl rfl rfl ?_
  refine j_iload_n dJ1_indexOfChar_4cfef_4 (q := 5) rfl rfl ?_
  refine j_istore_6_5 dJ1_indexOfChar_4cfef_5 (q := 7) rfl rfl rfl ?_
  have hx : ∀ i, i < 3 → ixQ u n = i → EQ (.int (ixR u n)) σ (.int (nI i)) σ := fun i hi e => ⟨by unfold ixR; rw [if_pos (by omega), e], rfl⟩
  refine io_step (i := 0) hu hn (by decide) (hx 0 (by decide)) (fun h0 => ?_)
  refine io_step hu hn (by decide) (hx 1 (by decide)) (fun h1 => ?_)
  refine io_step hu hn (by decide) (hx 2 (by decide)) (fun h2 => ?_)
  refine io_end ⟨?_, rfl⟩
  have hl := ixQ_le u n
  unfold ixR
  rw [if_neg (by omega)]
theorem ct_J1_canEncode_9a6ad {g : GT} {σ : S_} {n : Nat} (hn : n < 256) : CT g 0 M_J1_canEncode_9a6ad [.int (nI n)] σ (EQ (.int 1) σ) := by
  refine ct_of [.int (nI n)] pn_J1_canEncode_9a6ad rfl (Nat.le_of_ble_eq_true rfl) ?_
  refine j_iload_n dJ1_canEncode_9a6ad_0 (q := 1) rfl rfl ?_
  refine j_if_ltN (by omega) dJ1_canEncode_9a6ad_1 (t := 15) (by decide) (q := 4) rfl (fun c_1 => ?_) (fun c_1 => ?_)
  · skip
    omega
  · skip
    refine j_iload_n dJ1_canEncode_9a6ad_4 (q := 5) rfl rfl ?_
    refine j_sipush (v := 255) dJ1_canEncode_9a6ad_5 (q := 8) rfl (by decide) ?_
    refine j_icmp_gtN (b := 255) (by omega) (by omega) dJ1_canEncode_9a6ad_8 (t := 15) (by decide) (q := 11) rfl (fun c_8 => ?_) (fun c_8 => ?_)
    · skip
      omega
    · skip
      refine j_iconst (v := 1) dJ1_canEncode_9a6ad_11 (q := 12) rfl (by decide) ?_
      refine j_goto (q := 16) dJ1_canEncode_9a6ad_12 (by decide) ?_
      refine j_iretz dJ1_canEncode_9a6ad_16 rfl (by decide) ?_
      exact ⟨rfl, rfl⟩
theorem j_str_lenN {g : GT} {d : Nat} {M : MM} {Z : Value → S_ → Prop} {pc q : Nat} {ls st : List Value} {σ : S_} {u : Nat} (hu : u < 2) (hdg : decode M.2.1 pc = .ok (.arraylength, 1)) (hq : pc + 1 = q) (h : J g d M Z q ls (.int 3 :: st) σ) : J g d M Z pc ls (.ref (111 + u) :: st) σ := by
  have e : 111 + u = 110 + (u + 1) := by omega
  have hl : sLen.getD (u + 1) 0 = 3 := by rcases (show u = 0 ∨ u = 1 by omega) with rfl | rfl <;> rfl
  rw [e]
  exact j_str_len (by omega) hdg hq (by rw [hl]; exact h)
theorem ct_J1_indexOf_4cfef {g : GT} {σ : S_} {u n : Nat} (hu : u < 2) (hn : n < 256) : CT g 1 M_J1_indexOf_4cfef [.ref (111 + u), .int (nI n), .int 0, .int 3] σ (EQ (.int (ixR u n)) σ) := by
  refine ct_of [.ref (111 + u), .int (nI n), .int 0, .int 3] pn_J1_indexOf_4cfef rfl (Nat.le_of_ble_eq_true rfl) ?_
  refine j_iload_n dJ1_indexOf_4cfef_0 (q := 1) rfl rfl ?_
  refine j_callSi1E (M' := M_J1_canEncode_9a6ad) lk_J1_88 ms_J1_canEncode_9a6ad (by decide) (Nat.le_of_ble_eq_true rfl) dJ1_indexOf_4cfef_1 (q := 4) rfl (ct_J1_canEncode_9a6ad hn) ?_
  refine j_if_ne dJ1_indexOf_4cfef_4 (t := 9) (by decide) (q := 7) rfl (fun c_4 => ?_) (fun c_4 => ?_)
  · skip
    refine j_iload_n dJ1_indexOf_4cfef_9 (q := 10) rfl rfl ?_
    refine j_iconst (v := 0) dJ1_indexOf_4cfef_10 (q := 11) rfl (by decide) ?_
    refine j_mmax lkm_J1_92 ma_max_s ma_i ma_max_c (by decide) (Nat.le_of_ble_eq_true rfl) dJ1_indexOf_4cfef_11 (q := 14) rfl ?_
    show J g _ _ _ 14 _ [.int 0] _
    refine j_istore_n_4_2 dJ1_indexOf_4cfef_14 (q := 15) rfl rfl rfl ?_
    refine j_iload_n dJ1_indexOf_4cfef_15 (q := 16) rfl rfl ?_
    refine j_aload_n dJ1_indexOf_4cfef_16 (q := 17) rfl rfl ?_
    refine j_str_lenN hu dJ1_indexOf_4cfef_17 (q := 18) rfl ?_
    refine j_mmin lkm_J1_38 ma_min_s ma_i ma_min_c (by decide) (Nat.le_of_ble_eq_true rfl) dJ1_indexOf_4cfef_18 (q := 21) rfl ?_
    show J g _ _ _ 21 _ [.int 3] _
    refine j_istore_n_4_3 dJ1_indexOf_4cfef_21 (q := 22) rfl rfl rfl ?_
    refine j_iload_n dJ1_indexOf_4cfef_22 (q := 23) rfl rfl ?_
    refine j_iload_n dJ1_indexOf_4cfef_23 (q := 24) rfl rfl ?_
    refine j_icmp_lt dJ1_indexOf_4cfef_24 (t := 29) (by decide) (q := 27) rfl (fun c_24 => ?_) (fun c_24 => ?_)
    · skip
      refine j_aload_n dJ1_indexOf_4cfef_29 (q := 30) rfl rfl ?_
      refine j_iload_n dJ1_indexOf_4cfef_30 (q := 31) rfl rfl ?_
      refine j_iload_n dJ1_indexOf_4cfef_31 (q := 32) rfl rfl ?_
      refine j_iload_n dJ1_indexOf_4cfef_32 (q := 33) rfl rfl ?_
      refine j_callSi4E (M' := M_J1_indexOfChar_4cfef) lk_J1_95 ms_J1_indexOfChar_4cfef (by decide) (Nat.le_of_ble_eq_true rfl) dJ1_indexOf_4cfef_33 (q := 36) rfl (ct_J1_indexOfChar_4cfef hu hn) ?_
      refine j_ireti dJ1_indexOf_4cfef_36 rfl ?_
      exact ⟨rfl, rfl⟩
    · skip
      exact absurd c_24 (by decide)
  · skip
    exact absurd c_4 (by decide)
theorem ct_J0_isLatin1_aae02 {g : GT} {σ : S_} {u : Nat} (hu : u < 2) : CT g 0 M_J0_isLatin1_aae02 [.ref (101 + u)] σ (EQ (.int 1) σ) := by
  refine ct_of [.ref (101 + u)] pn_J0_isLatin1_aae02 rfl (Nat.le_of_ble_eq_true rfl) ?_
  refine j_gets_cmp gs_J0_38 dJ0_isLatin1_aae02_0 (q := 3) rfl ?_
  refine j_if_eq dJ0_isLatin1_aae02_3 (t := 17) (by decide) (q := 6) rfl (fun c_3 => ?_) (fun c_3 => ?_)
  · skip
    exact absurd c_3 (by decide)
  · skip
    refine j_aload_n dJ0_isLatin1_aae02_6 (q := 7) rfl rfl ?_
    rw [show 101 + u = 100 + (u + 1) by omega]
    refine j_str_cod (by omega) fs_J0_15 dJ0_isLatin1_aae02_7 (q := 10) rfl ?_
    refine j_if_ne dJ0_isLatin1_aae02_10 (t := 17) (by decide) (q := 13) rfl (fun c_10 => ?_) (fun c_10 => ?_)
    · skip
      exact absurd c_10 (by decide)
    · skip
      refine j_iconst (v := 1) dJ0_isLatin1_aae02_13 (q := 14) rfl (by decide) ?_
      refine j_goto (q := 18) dJ0_isLatin1_aae02_14 (by decide) ?_
      refine j_iretz dJ0_isLatin1_aae02_18 rfl (by decide) ?_
      exact ⟨rfl, rfl⟩
theorem ct_J0_coder_7d493 {g : GT} {σ : S_} {u : Nat} (hu : u < 2) : CT g 0 M_J0_coder_7d493 [.ref (101 + u)] σ (EQ (.int 0) σ) := by
  refine ct_of [.ref (101 + u)] pn_J0_coder_7d493 rfl (Nat.le_of_ble_eq_true rfl) ?_
  refine j_gets_cmp gs_J0_38 dJ0_coder_7d493_0 (q := 3) rfl ?_
  refine j_if_eq dJ0_coder_7d493_3 (t := 13) (by decide) (q := 6) rfl (fun c_3 => ?_) (fun c_3 => ?_)
  · skip
    exact absurd c_3 (by decide)
  · skip
    refine j_aload_n dJ0_coder_7d493_6 (q := 7) rfl rfl ?_
    rw [show 101 + u = 100 + (u + 1) by omega]
    refine j_str_cod (by omega) fs_J0_15 dJ0_coder_7d493_7 (q := 10) rfl ?_
    refine j_goto (q := 14) dJ0_coder_7d493_10 (by decide) ?_
    refine j_iret dJ0_coder_7d493_14 rfl rfl (fun _ h => by cases h) ?_
    exact ⟨rfl, rfl⟩
theorem j_str_valN {g : GT} {d : Nat} {M : MM} {Z : Value → S_ → Prop} {pc q : Nat} {ls st : List Value} {σ : S_} {u idx : Nat} (hu : u < 2) (hw : Cond.fieldLink M.1.cls idx "java/lang/String" "value" "[B" ∈ lw_g) (hdg : decode M.2.1 pc = .ok (.getfield idx, 3)) (hq : pc + 3 = q) (h : J g d M Z q ls (.ref (111 + u) :: st) σ) : J g d M Z pc ls (.ref (101 + u) :: st) σ := by
  rw [show 101 + u = 100 + (u + 1) by omega]
  refine j_str_val (by omega) hw hdg hq ?_
  rw [show 110 + (u + 1) = 111 + u by omega]
  exact h
theorem ct_J0_length_8abf5 {g : GT} {σ : S_} {u : Nat} (hu : u < 2) : CT g 1 M_J0_length_8abf5 [.ref (101 + u)] σ (EQ (.int 3) σ) := by
  refine ct_of [.ref (101 + u)] pn_J0_length_8abf5 rfl (Nat.le_of_ble_eq_true rfl) ?_
  refine j_aload_n dJ0_length_8abf5_0 (q := 1) rfl rfl ?_
  refine j_str_valN hu fs_J0_9 dJ0_length_8abf5_1 (q := 4) rfl ?_
  refine j_str_lenN hu dJ0_length_8abf5_4 (q := 5) rfl ?_
  refine j_aload_n dJ0_length_8abf5_5 (q := 6) rfl rfl ?_
  refine j_callVi0E (M' := M_J0_coder_7d493) lk_J0_335 mv_J0_coder_7d493 (show OB (101 + u) RJ0 by rw [show 101 + u = 100 + (u + 1) by omega]; exact ob_s (u + 1) (by omega)) (by decide) (Nat.le_of_ble_eq_true rfl) dJ0_length_8abf5_6 (q := 9) rfl (ct_J0_coder_7d493 hu) ?_
  refine j_ishr dJ0_length_8abf5_9 (q := 10) rfl ?_
  refine j_ireti dJ0_length_8abf5_10 rfl ?_
  exact ⟨rfl, rfl⟩
theorem ct_J0_indexOf_7cf53 {g : GT} {σ : S_} {u n : Nat} (hu : u < 2) (hn : n < 256) : CT g 2 M_J0_indexOf_7cf53 [.ref (101 + u), .int (nI n), .int 0] σ (EQ (.int (ixR u n)) σ) := by
  refine ct_of [.ref (101 + u), .int (nI n), .int 0] pn_J0_indexOf_7cf53 rfl (Nat.le_of_ble_eq_true rfl) ?_
  refine j_aload_n dJ0_indexOf_7cf53_0 (q := 1) rfl rfl ?_
  refine j_callVi0E (M' := M_J0_isLatin1_aae02) lk_J0_492 mv_J0_isLatin1_aae02 (show OB (101 + u) RJ0 by rw [show 101 + u = 100 + (u + 1) by omega]; exact ob_s (u + 1) (by omega)) (by decide) (Nat.le_of_ble_eq_true rfl) dJ0_indexOf_7cf53_1 (q := 4) rfl (ct_J0_isLatin1_aae02 hu) ?_
  refine j_if_eq dJ0_indexOf_7cf53_4 (t := 23) (by decide) (q := 7) rfl (fun c_4 => ?_) (fun c_4 => ?_)
  · skip
    exact absurd c_4 (by decide)
  · skip
    refine j_aload_n dJ0_indexOf_7cf53_7 (q := 8) rfl rfl ?_
    refine j_str_valN hu fs_J0_9 dJ0_indexOf_7cf53_8 (q := 11) rfl ?_
    refine j_iload_n dJ0_indexOf_7cf53_11 (q := 12) rfl rfl ?_
    refine j_iload_n dJ0_indexOf_7cf53_12 (q := 13) rfl rfl ?_
    refine j_aload_n dJ0_indexOf_7cf53_13 (q := 14) rfl rfl ?_
    refine j_callVi0E (M' := M_J0_length_8abf5) lk_J0_505 mv_J0_length_8abf5 (show OB (101 + u) RJ0 by rw [show 101 + u = 100 + (u + 1) by omega]; exact ob_s (u + 1) (by omega)) (by decide) (Nat.le_of_ble_eq_true rfl) dJ0_indexOf_7cf53_14 (q := 17) rfl (ct_J0_length_8abf5 hu) ?_
    refine j_callSi4E (M' := M_J1_indexOf_4cfef) lk_J0_637 ms_J1_indexOf_4cfef (by decide) (Nat.le_of_ble_eq_true rfl) dJ0_indexOf_7cf53_17 (q := 20) rfl (ct_J1_indexOf_4cfef hu hn) ?_
    refine j_goto (q := 36) dJ0_indexOf_7cf53_20 (by decide) ?_
    refine j_ireti dJ0_indexOf_7cf53_36 rfl ?_
    exact ⟨rfl, rfl⟩
theorem ct_J0_indexOf_0f7a4 {g : GT} {σ : S_} {u n : Nat} (hu : u < 2) (hn : n < 256) : CT g 3 M_J0_indexOf_0f7a4 [.ref (101 + u), .int (nI n)] σ (EQ (.int (ixR u n)) σ) := by
  refine ct_of [.ref (101 + u), .int (nI n)] pn_J0_indexOf_0f7a4 rfl (Nat.le_of_ble_eq_true rfl) ?_
  refine j_aload_n dJ0_indexOf_0f7a4_0 (q := 1) rfl rfl ?_
  refine j_iload_n dJ0_indexOf_0f7a4_1 (q := 2) rfl rfl ?_
  refine j_iconst (v := 0) dJ0_indexOf_0f7a4_2 (q := 3) rfl (by decide) ?_
  refine j_callVi2E (M' := M_J0_indexOf_7cf53) lk_J0_633 mv_J0_indexOf_7cf53 (show OB (101 + u) RJ0 by rw [show 101 + u = 100 + (u + 1) by omega]; exact ob_s (u + 1) (by omega)) (by decide) (Nat.le_of_ble_eq_true rfl) dJ0_indexOf_0f7a4_3 (q := 6) rfl (ct_J0_indexOf_7cf53 hu hn) ?_
  refine j_ireti dJ0_indexOf_0f7a4_6 rfl ?_
  exact ⟨rfl, rfl⟩
