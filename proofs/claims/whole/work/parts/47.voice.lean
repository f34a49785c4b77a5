def abN (a : Nat) : Nat := ([0, 0, 0, 0, 1, 2, 0] : List Nat).getD a 0
def bdN (a w : Nat) : Nat := ([10, 11, 12, 13, 20, 0, 0, 21, 0, 30, 0, 0, 0, 0, 40, 0, 50, 0, 51, 0, 0, 60, 0, 0, 70, 71, 0, 0] : List Nat).getD (4 * a + w) 0
def owN (w a : Nat) : Nat := if bdN a w ≠ 0 then a else if bdN (abN a) w ≠ 0 then abN a else abN (abN a)
/-- how many BODIES have begun, THE TRACE, whether PARTED -/
abbrev VT : Type := Nat × (Nat → Int32) × Int32
def stT (b : Nat) (T : VT) : VT := if T.1 < 30 then (T.1 + 1, upd T.2.1 T.1 (nI b), T.2.2) else T
/-- a BODY, worked out; f asks a VOICE of a KIND -/
def vB (f : Nat → Nat → Int32 → VT → Int32 × VT) (K k : Nat) (m : Int32) (b ab : Nat) (x : Int32) (T : VT) : Int32 × VT :=
  if b = 10 then (x + nI k, T)
  else if b = 11 then ((f 0 K x T).1 * 2, (f 0 K x T).2)
  else if b = 12 then ((f 1 K x T).1 - m, (f 1 K x T).2)
  else if b = 13 then (if m - nI k = 0 then (0, (T.1, T.2.1, 1)) else (x / (m - nI k), T))
  else if b = 20 then ((f 0 ab x T).1 - 4, (f 0 ab x T).2)
  else if b = 21 then (if (f 3 ab x T).2.2.2 = 0 then ((f 3 ab x T).1 + (f 1 K 1 (f 3 ab x T).2).1, (f 1 K 1 (f 3 ab x T).2).2) else (0, (f 3 ab x T).2))
  else if b = 30 then (0 - (f 1 ab x T).1, (f 1 ab x T).2)
  else if b = 40 then f 2 ab (x / 2) T
  else if b = 50 then ((f 0 ab x T).1 * 3, (f 0 ab x T).2)
  else if b = 51 then ((f 2 ab x T).1 ^^^ nI k, (f 2 ab x T).2)
  else if b = 60 then f 1 ab (x + 1) T
  else if b = 70 then (9, T)
  else if b = 71 then ((f 1 ab x T).1 + m, (f 1 ab x T).2)
  else (0, T)
/-- VOICE w asked of KIND a with x, at most n deep -/
def vS (K k : Nat) (m : Int32) : Nat → Nat → Nat → Int32 → VT → Int32 × VT
  | 0, _, _, _, T => (0, T)
  | n + 1, w, a, x, T => vB (vS K k m n) K k m (bdN (owN w a) w) (abN (owN w a)) x (stT (bdN (owN w a) w) T)
def VI (K k : Nat) (m : Int32) (σ : S_) (T : VT) : Prop := σ 60 1 = nI T.1 ∧ T.1 ≤ 30 ∧ σ 60 2 = T.2.2 ∧ (∀ j, j < 30 → σ 61 j = T.2.1 j) ∧ σ 60 3 = nI k ∧ σ 60 4 = m ∧ σ 60 5 = nI K
def VZ (K k : Nat) (m : Int32) (σ : S_) (q : Int32 × VT) : Value → S_ → Prop := fun r τ => r = .int q.1 ∧ VI K k m τ q.2 ∧ ∀ y, y ≠ 60 → y ≠ 61 → τ y = σ y
theorem VI_st {K k b : Nat} {m : Int32} {σ : S_} {T : VT} (h : VI K k m σ T) (hT : T.1 < 30) : VI K k m (up (up σ 61 T.1 (nI b)) 60 1 (nI (T.1 + 1))) (stT b T) := by
  obtain ⟨h1, h2, h3, h4, h5, h6, h7⟩ := h
  have e : ∀ j, j ≠ 1 → up (up σ 61 T.1 (nI b)) 60 1 (nI (T.1 + 1)) 60 j = σ 60 j := fun j hj => (up_nk hj).trans (up_nc (by decide))
  unfold stT
  rw [if_pos hT]
  refine ⟨up_at, hT, (e 2 (by decide)).trans h3, fun j hj => ?_, (e 3 (by decide)).trans h5, (e 4 (by decide)).trans h6, (e 5 (by decide)).trans h7⟩
  rw [up_nc (by decide)]
  show _ = upd T.2.1 T.1 (nI b) j
  by_cases q : j = T.1
  · rw [q, up_at, upd_at]
  · rw [up_nk q, upd_ne q]; exact h4 j hj
theorem VI_st0 {K k b : Nat} {m : Int32} {σ : S_} {T : VT} (h : VI K k m σ T) (hT : 30 ≤ T.1) : VI K k m σ (stT b T) := by
  unfold stT
  rw [if_neg (by omega)]
  exact h
theorem bdN_bdy : ∀ a, a < 7 → ∀ w, w < 4 → bdy.getD (4 * a + w) 0 = nI (bdN a w) := by decide +kernel
theorem kAb_N : ∀ a, a < 7 → 1 ≤ a → kAb (nI a) = nI (abN a) := by decide +kernel
theorem bdN_lt : ∀ a, a < 7 → ∀ w, w < 4 → bdN a w < 100 := by decide +kernel
theorem owN_lt : ∀ a, a < 7 → ∀ w, w < 4 → owN w a < 7 := by decide +kernel
theorem ow_d1 : ∀ a, a < 7 → ∀ w, w < 4 → bdN a w = 0 → 1 ≤ a := by decide +kernel
theorem abN_lt : ∀ a, a < 7 → abN a < 7 := by decide +kernel
theorem ow_d2 : ∀ a, a < 7 → ∀ w, w < 4 → bdN a w = 0 → bdN (abN a) w = 0 → bdN (abN (abN a)) w ≠ 0 := by decide +kernel
theorem ow_cases : ∀ a, a < 7 → ∀ w, w < 4 → (bdN a w ≠ 0 ∧ owN w a = a) ∨ (bdN a w = 0 ∧ 1 ≤ a ∧ bdN (abN a) w ≠ 0 ∧ owN w a = abN a ∧ abN a < 7) ∨ (bdN a w = 0 ∧ 1 ≤ a ∧ bdN (abN a) w = 0 ∧ 1 ≤ abN a ∧ abN a < 7 ∧ bdN (abN (abN a)) w ≠ 0 ∧ owN w a = abN (abN a) ∧ abN (abN a) < 7) := by
  intro a ha w hw
  unfold owN
  by_cases b1 : bdN a w = 0
  · rw [if_neg (fun h => h b1)]
    have l1 := abN_lt a ha
    by_cases b2 : bdN (abN a) w = 0
    · rw [if_neg (fun h => h b2)]
      exact .inr (.inr ⟨b1, ow_d1 a ha w hw b1, b2, ow_d1 _ l1 w hw b2, l1, ow_d2 a ha w hw b1 b2, rfl, abN_lt _ l1⟩)
    · rw [if_pos b2]
      exact .inr (.inl ⟨b1, ow_d1 a ha w hw b1, b2, rfl, l1⟩)
  · rw [if_pos b1]
    exact .inl ⟨b1, rfl⟩
theorem ct_X5_bodyOf {g : GT} {σ : S_} {a v : Nat} (ha : a < 7) (hw : v < 4) : CT g 1 M_X5_bodyOf [.int (nI a), .int (nI v)] σ (EQ (.int (nI (bdN a v))) σ) := by
  refine ct_of [.int (nI a), .int (nI v), .null] pn_X5_bodyOf rfl (Nat.le_of_ble_eq_true rfl) ?_
  refine j_iconst (v := 4) dX5_bodyOf_0 (q := 1) rfl (by decide) ?_
  refine j_iload_n dX5_bodyOf_1 (q := 2) rfl rfl ?_
  refine j_imulN (a := 4) dX5_bodyOf_2 (q := 3) rfl ?_
  refine j_iload_n dX5_bodyOf_3 (q := 4) rfl rfl ?_
  refine j_iaddN dX5_bodyOf_4 (q := 5) rfl ?_
  refine j_istore_n_3_2 dX5_bodyOf_5 (q := 6) rfl rfl rfl ?_
  refine j_iload_n dX5_bodyOf_6 (q := 7) rfl rfl ?_
  refine j_iconst (v := 0) dX5_bodyOf_7 (q := 8) rfl (by decide) ?_
  refine j_gets_bdy gs_X5_54 dX5_bodyOf_8 (q := 11) rfl ?_
  refine j_slen (a := 1) (by decide) dX5_bodyOf_11 (q := 12) rfl ?_
  refine j_iconst (v := 1) dX5_bodyOf_12 (q := 13) rfl (by decide) ?_
  refine j_isub dX5_bodyOf_13 (q := 14) rfl ?_
  refine j_callSi3E (M' := M_X7_within) lk_X5_57 ms_X7_within (by decide) (Nat.le_of_ble_eq_true rfl) dX5_bodyOf_14 (q := 17) rfl (ct_X7_within) ?_
  refine j_ifeqB dX5_bodyOf_17 (t := 28) (by decide) (q := 20) rfl (fun c_17 => ?_) (fun c_17 => ?_)
  · skip
    refine j_gets_bdy gs_X5_54 dX5_bodyOf_20 (q := 23) rfl ?_
    refine j_iload_n dX5_bodyOf_23 (q := 24) rfl rfl ?_
    refine j_saldN (a := 1) (by decide) (show 4 * a + v < 28 by omega) (show (28 : Nat) < 2 ^ 31 by decide) dX5_bodyOf_24 (q := 25) rfl ?_
    refine j_goto (q := 29) dX5_bodyOf_25 (by decide) ?_
    refine j_ireti dX5_bodyOf_29 rfl ?_
    exact ⟨congrArg Value.int (bdN_bdy a ha v hw), rfl⟩
  · skip
    rw [show nI (stL g 1) - 1 = nI 27 from by rw [show stL g 1 = 28 from rfl]; decide] at c_17
    exact absurd (inK (by omega) (by decide)) c_17
theorem ow_stay {g : GT} {Z : Value → S_ → Prop} {σ : S_} {a0 v a i : Nat} (ha : a < 7) (hw : v < 4) (hi : i < 7) (hb : bdN a v ≠ 0) (hz : Z (.int (nI a)) σ) : J g 2 M_X5_ownerOf Z 4 [.int (nI a0), .int (nI v), .int (nI a), .int (nI i)] [] σ := by
  have hbl := bdN_lt a ha v hw
  refine j_iload_n dX5_ownerOf_4 (q := 5) rfl rfl ?_
  refine j_bipush (v := 7) dX5_ownerOf_5 (q := 7) rfl (by decide) ?_
  refine j_icmp_geN (b := 7) (by omega) (by omega) dX5_ownerOf_7 (t := 33) (by decide) (q := 10) rfl (fun c_7 => ?_) (fun c_7 => ?_)
  · skip
    omega
  · skip
    refine j_iload_n dX5_ownerOf_10 (q := 11) rfl rfl ?_
    refine j_if_ltN (by omega) dX5_ownerOf_11 (t := 33) (by decide) (q := 14) rfl (fun c_11 => ?_) (fun c_11 => ?_)
    · skip
      omega
    · skip
      refine j_iload_n dX5_ownerOf_14 (q := 15) rfl rfl ?_
      refine j_iload_n dX5_ownerOf_15 (q := 16) rfl rfl ?_
      refine j_callSi2E (M' := M_X5_bodyOf) lk_X5_44 ms_X5_bodyOf (by decide) (Nat.le_of_ble_eq_true rfl) dX5_ownerOf_16 (q := 19) rfl (ct_X5_bodyOf (by assumption) (by assumption)) ?_
      refine j_if_neN (by omega) dX5_ownerOf_19 (t := 33) (by decide) (q := 22) rfl (fun c_19 => ?_) (fun c_19 => ?_)
      · skip
        refine j_iload_n dX5_ownerOf_33 (q := 34) rfl rfl ?_
        refine j_ireti dX5_ownerOf_34 rfl ?_
        exact hz
      · skip
        omega
theorem ow_go {g : GT} {Z : Value → S_ → Prop} {σ : S_} {a0 v a i : Nat} (ha : a < 7) (hw : v < 4) (hi : i < 7) (h1 : 1 ≤ a) (hb : bdN a v = 0) (h : J g 2 M_X5_ownerOf Z 4 [.int (nI a0), .int (nI v), .int (nI (abN a)), .int (nI (i + 1))] [] σ) : J g 2 M_X5_ownerOf Z 4 [.int (nI a0), .int (nI v), .int (nI a), .int (nI i)] [] σ := by
  have hbl := bdN_lt a ha v hw
  refine j_iload_n dX5_ownerOf_4 (q := 5) rfl rfl ?_
  refine j_bipush (v := 7) dX5_ownerOf_5 (q := 7) rfl (by decide) ?_
  refine j_icmp_geN (b := 7) (by omega) (by omega) dX5_ownerOf_7 (t := 33) (by decide) (q := 10) rfl (fun c_7 => ?_) (fun c_7 => ?_)
  · skip
    omega
  · skip
    refine j_iload_n dX5_ownerOf_10 (q := 11) rfl rfl ?_
    refine j_if_ltN (by omega) dX5_ownerOf_11 (t := 33) (by decide) (q := 14) rfl (fun c_11 => ?_) (fun c_11 => ?_)
    · skip
      omega
    · skip
      refine j_iload_n dX5_ownerOf_14 (q := 15) rfl rfl ?_
      refine j_iload_n dX5_ownerOf_15 (q := 16) rfl rfl ?_
      refine j_callSi2E (M' := M_X5_bodyOf) lk_X5_44 ms_X5_bodyOf (by decide) (Nat.le_of_ble_eq_true rfl) dX5_ownerOf_16 (q := 19) rfl (ct_X5_bodyOf (by assumption) (by assumption)) ?_
      refine j_if_neN (by omega) dX5_ownerOf_19 (t := 33) (by decide) (q := 22) rfl (fun c_19 => ?_) (fun c_19 => ?_)
      · skip
        omega
      · skip
        refine j_iload_n dX5_ownerOf_22 (q := 23) rfl rfl ?_
        refine j_callSi1E (M' := M_X7_kindAbove) lk_X5_47 ms_X7_kindAbove (by decide) (Nat.le_of_ble_eq_true rfl) dX5_ownerOf_23 (q := 26) rfl (ct_X7_kindAbove) ?_
        rw [kAb_N a ha h1]
        refine j_istore_n_4_2 dX5_ownerOf_26 (q := 27) rfl rfl rfl ?_
        refine j_iincN_4_3 dX5_ownerOf_27 (q := 30) rfl rfl rfl ?_
        refine j_goto (q := 4) dX5_ownerOf_30 (by decide) ?_
        exact h
theorem ct_X5_ownerOf {g : GT} {σ : S_} {a v : Nat} (ha : a < 7) (hw : v < 4) : CT g 2 M_X5_ownerOf [.int (nI a), .int (nI v)] σ (EQ (.int (nI (owN v a))) σ) := by
  refine ct_of [.int (nI a), .int (nI v), .null, .null] pn_X5_ownerOf rfl (Nat.le_of_ble_eq_true rfl) ?_
  refine j_iload_n dX5_ownerOf_0 (q := 1) rfl rfl ?_
  refine j_istore_n_4_2 dX5_ownerOf_1 (q := 2) rfl rfl rfl ?_
  refine j_iconst (v := 0) dX5_ownerOf_2 (q := 3) rfl (by decide) ?_
  refine j_istore_n_4_3 dX5_ownerOf_3 (q := 4) rfl rfl rfl ?_
  rcases ow_cases a ha v hw with ⟨b1, e⟩ | ⟨b1, a1, b2, e, l1⟩ | ⟨b1, a1, b2, a2, l1, b3, e, l2⟩
  · rw [e]
    exact ow_stay (i := 0) ha hw (by decide) b1 ⟨rfl, rfl⟩
  · rw [e]
    exact ow_go (i := 0) ha hw (by decide) a1 b1 (ow_stay l1 hw (by decide) b2 ⟨rfl, rfl⟩)
  · rw [e]
    exact ow_go (i := 0) ha hw (by decide) a1 b1 (ow_go l1 hw (by decide) a2 b2 (ow_stay l2 hw (by decide) b3 ⟨rfl, rfl⟩))
theorem ct_X5_partOf {g : GT} {σ : S_} {K k ab : Nat} {m x : Int32} {T : VT} {f : Nat → Nat → Int32 → VT → Int32 × VT} (hV : VI K k m σ T) : CT g 0 M_X5_partOf [.ref 60, .int x] σ (VZ K k m σ (vB f K k m 13 ab x T)) := by
  obtain ⟨v1, v2, v3, v4, v5, v6, v7⟩ := id hV
  refine ct_of [.ref 60, .int x, .null] pn_X5_partOf rfl (Nat.le_of_ble_eq_true rfl) ?_
  refine j_aload_n dX5_partOf_0 (q := 1) rfl rfl ?_
  refine j_getIV fs_X5_24 rfl rfl v6 dX5_partOf_1 (q := 4) rfl ?_
  refine j_aload_n dX5_partOf_4 (q := 5) rfl rfl ?_
  refine j_getIV fs_X5_15 rfl rfl v5 dX5_partOf_5 (q := 8) rfl ?_
  refine j_isub dX5_partOf_8 (q := 9) rfl ?_
  refine j_istore_n_3_2 dX5_partOf_9 (q := 10) rfl rfl rfl ?_
  refine j_iload_n dX5_partOf_10 (q := 11) rfl rfl ?_
  refine j_if_ne dX5_partOf_11 (t := 21) (by decide) (q := 14) rfl (fun c_11 => ?_) (fun c_11 => ?_)
  · skip
    refine j_iload_n dX5_partOf_21 (q := 22) rfl rfl ?_
    refine j_iload_n dX5_partOf_22 (q := 23) rfl rfl ?_
    refine j_idiv dX5_partOf_23 (q := 24) rfl c_11 ?_
    refine j_ireti dX5_partOf_24 rfl ?_
    have e : vB f K k m 13 ab x T = (x / (m - nI k), T) := if_neg c_11
    rw [e]
    exact ⟨rfl, hV, fun _ _ _ => rfl⟩
  · skip
    refine j_aload_n dX5_partOf_14 (q := 15) rfl rfl ?_
    refine j_iconst (v := 1) dX5_partOf_15 (q := 16) rfl (by decide) ?_
    refine j_putZ fs_X5_32 rfl rfl fp_5_2 (by decide) dX5_partOf_16 (q := 19) rfl ?_
    refine j_iconst (v := 0) dX5_partOf_19 (q := 20) rfl (by decide) ?_
    refine j_ireti dX5_partOf_20 rfl ?_
    have e : vB f K k m 13 ab x T = (0, (T.1, T.2.1, 1)) := if_pos c_11
    rw [e]
    exact ⟨rfl, ⟨(up_nk (by decide)).trans v1, v2, up_at, fun j hj => (up_nc (by decide)).trans (v4 j hj), (up_nk (by decide)).trans v5, (up_nk (by decide)).trans v6, (up_nk (by decide)).trans v7⟩, fun y y1 y2 => up_row y1⟩
theorem ct_X5_partAndSips {g : GT} {σ : S_} {K k ab n dd : Nat} {m x : Int32} {T : VT} (hK : K < 7) (hab : ab < 7) (ih : ∀ (a v : Nat) (x : Int32) (T : VT) (σ : S_), a < 7 → v < 4 → VI K k m σ T → CT g (3 * n + 3) M_X5_spoken [.ref 60, .int (nI a), .int (nI v), .int x, .int (nI dd)] σ (VZ K k m σ (vS K k m n v a x T))) (hV : VI K k m σ T) : CT g (3 * n + 4) M_X5_partAndSips [.ref 60, .int (nI ab), .int x, .int (nI dd)] σ (VZ K k m σ (vB (vS K k m n) K k m 21 ab x T)) := by
  obtain ⟨v1, v2, v3, v4, v5, v6, v7⟩ := id hV
  refine ct_of [.ref 60, .int (nI ab), .int x, .int (nI dd), .null] pn_X5_partAndSips rfl (Nat.le_of_ble_eq_true rfl) ?_
  refine j_aload_n dX5_partAndSips_0 (q := 1) rfl rfl ?_
  refine j_iload_n dX5_partAndSips_1 (q := 2) rfl rfl ?_
  refine j_iconst (v := 3) dX5_partAndSips_2 (q := 3) rfl (by decide) ?_
  refine j_iload_n dX5_partAndSips_3 (q := 4) rfl rfl ?_
  refine j_iload_n dX5_partAndSips_4 (q := 5) rfl rfl ?_
  refine j_callVi4 (M' := M_X5_spoken) lk_X5_36 mv_X5_spoken ob_60 (by omega) (Nat.le_of_ble_eq_true rfl) dX5_partAndSips_5 (q := 8) rfl (ih ab 3 x T σ (by first | assumption | decide) (by decide) hV) ?_
  intro x1 τ1 hz
  obtain ⟨z1, hV1, hF1⟩ := hz
  cases z1
  refine j_istore_5_4 dX5_partAndSips_8 (q := 10) rfl rfl rfl ?_
  refine j_aload_n dX5_partAndSips_10 (q := 11) rfl rfl ?_
  refine j_getIV fs_X5_32 rfl rfl hV1.2.2.1 dX5_partAndSips_11 (q := 14) rfl ?_
  refine j_if_eq dX5_partAndSips_14 (t := 21) (by decide) (q := 17) rfl (fun c_14 => ?_) (fun c_14 => ?_)
  · skip
    refine j_iload dX5_partAndSips_21 (q := 23) rfl rfl ?_
    refine j_aload_n dX5_partAndSips_23 (q := 24) rfl rfl ?_
    refine j_aload_n dX5_partAndSips_24 (q := 25) rfl rfl ?_
    refine j_getIV fs_X5_28 rfl rfl hV1.2.2.2.2.2.2 dX5_partAndSips_25 (q := 28) rfl ?_
    refine j_iconst (v := 1) dX5_partAndSips_28 (q := 29) rfl (by decide) ?_
    refine j_iconst (v := 1) dX5_partAndSips_29 (q := 30) rfl (by decide) ?_
    refine j_iload_n dX5_partAndSips_30 (q := 31) rfl rfl ?_
    refine j_callVi4 (M' := M_X5_spoken) lk_X5_36 mv_X5_spoken ob_60 (by omega) (Nat.le_of_ble_eq_true rfl) dX5_partAndSips_31 (q := 34) rfl (ih K 1 1 _ τ1 (by first | assumption | decide) (by decide) hV1) ?_
    intro x2 τ2 hz
    obtain ⟨z2, hV2, hF2⟩ := hz
    cases z2
    refine j_iadd dX5_partAndSips_34 (q := 35) rfl ?_
    refine j_ireti dX5_partAndSips_35 rfl ?_
    have e : vB (vS K k m n) K k m 21 ab x T = ((vS K k m n 3 ab x T).1 + (vS K k m n 1 K 1 (vS K k m n 3 ab x T).2).1, (vS K k m n 1 K 1 (vS K k m n 3 ab x T).2).2) := if_pos c_14
    rw [e]
    exact ⟨rfl, hV2, fun y y1 y2 => (hF2 y y1 y2).trans (hF1 y y1 y2)⟩
  · skip
    refine j_iconst (v := 0) dX5_partAndSips_17 (q := 18) rfl (by decide) ?_
    refine j_goto (q := 35) dX5_partAndSips_18 (by decide) ?_
    refine j_ireti dX5_partAndSips_35 rfl ?_
    have e : vB (vS K k m n) K k m 21 ab x T = (0, (vS K k m n 3 ab x T).2) := if_neg c_14
    rw [e]
    exact ⟨rfl, hV1, hF1⟩
theorem ct_wo_10 {g : GT} {σ : S_} {av : Int32} {K k ab n dd : Nat} {m x : Int32} {T : VT} (hK : K < 7) (hab : ab < 7) (ih : ∀ (a v : Nat) (x : Int32) (T : VT) (σ : S_), a < 7 → v < 4 → VI K k m σ T → CT g (3 * n + 3) M_X5_spoken [.ref 60, .int (nI a), .int (nI v), .int x, .int (nI dd)] σ (VZ K k m σ (vS K k m n v a x T))) (hV : VI K k m σ T) : CT g (3 * n + 5) M_X5_workedOut [.ref 60, .int 10, .int av, .int x, .int (nI dd)] σ (VZ K k m σ (vB (vS K k m n) K k m 10 ab x T)) := by
  obtain ⟨v1, v2, v3, v4, v5, v6, v7⟩ := id hV
  refine ct_of [.ref 60, .int 10, .int av, .int x, .int (nI dd)] pn_X5_workedOut rfl (Nat.le_of_ble_eq_true rfl) ?_
  refine j_iload_n dX5_workedOut_0 (q := 1) rfl rfl ?_
  refine j_lsw_10_11_12_13_20_21_30_40_50_51_60_70_71 dX5_workedOut_1 (td := 264) (t0 := 116) (t1 := 123) (t2 := 138) (t3 := 156) (t4 := 162) (t5 := 174) (t6 := 183) (t7 := 195) (t8 := 207) (t9 := 219) (t10 := 234) (t11 := 246) (t12 := 249) (by decide) (by decide) (by decide) (by decide) (by decide) (by decide) (by decide) (by decide) (by decide) (by decide) (by decide) (by decide) (by decide) (by decide) (fun e_1 => ?_) (fun e_1 => ?_) (fun e_1 => ?_) (fun e_1 => ?_) (fun e_1 => ?_) (fun e_1 => ?_) (fun e_1 => ?_) (fun e_1 => ?_) (fun e_1 => ?_) (fun e_1 => ?_) (fun e_1 => ?_) (fun e_1 => ?_) (fun e_1 => ?_) (fun e_1_0 e_1_1 e_1_2 e_1_3 e_1_4 e_1_5 e_1_6 e_1_7 e_1_8 e_1_9 e_1_10 e_1_11 e_1_12 => ?_)
  · skip
    refine j_iload_n dX5_workedOut_116 (q := 117) rfl rfl ?_
    refine j_aload_n dX5_workedOut_117 (q := 118) rfl rfl ?_
    refine j_getIV fs_X5_15 rfl rfl v5 dX5_workedOut_118 (q := 121) rfl ?_
    refine j_iadd dX5_workedOut_121 (q := 122) rfl ?_
    refine j_ireti dX5_workedOut_122 rfl ?_
    exact ⟨rfl, hV, fun _ _ _ => rfl⟩
  · skip
    exact absurd e_1 (by decide)
  · skip
    exact absurd e_1 (by decide)
  · skip
    exact absurd e_1 (by decide)
  · skip
    exact absurd e_1 (by decide)
  · skip
    exact absurd e_1 (by decide)
  · skip
    exact absurd e_1 (by decide)
  · skip
    exact absurd e_1 (by decide)
  · skip
    exact absurd e_1 (by decide)
  · skip
    exact absurd e_1 (by decide)
  · skip
    exact absurd e_1 (by decide)
  · skip
    exact absurd e_1 (by decide)
  · skip
    exact absurd e_1 (by decide)
  · skip
    exact absurd rfl e_1_0
theorem ct_wo_11 {g : GT} {σ : S_} {av : Int32} {K k ab n dd : Nat} {m x : Int32} {T : VT} (hK : K < 7) (hab : ab < 7) (ih : ∀ (a v : Nat) (x : Int32) (T : VT) (σ : S_), a < 7 → v < 4 → VI K k m σ T → CT g (3 * n + 3) M_X5_spoken [.ref 60, .int (nI a), .int (nI v), .int x, .int (nI dd)] σ (VZ K k m σ (vS K k m n v a x T))) (hV : VI K k m σ T) : CT g (3 * n + 5) M_X5_workedOut [.ref 60, .int 11, .int av, .int x, .int (nI dd)] σ (VZ K k m σ (vB (vS K k m n) K k m 11 ab x T)) := by
  obtain ⟨v1, v2, v3, v4, v5, v6, v7⟩ := id hV
  refine ct_of [.ref 60, .int 11, .int av, .int x, .int (nI dd)] pn_X5_workedOut rfl (Nat.le_of_ble_eq_true rfl) ?_
  refine j_iload_n dX5_workedOut_0 (q := 1) rfl rfl ?_
  refine j_lsw_10_11_12_13_20_21_30_40_50_51_60_70_71 dX5_workedOut_1 (td := 264) (t0 := 116) (t1 := 123) (t2 := 138) (t3 := 156) (t4 := 162) (t5 := 174) (t6 := 183) (t7 := 195) (t8 := 207) (t9 := 219) (t10 := 234) (t11 := 246) (t12 := 249) (by decide) (by decide) (by decide) (by decide) (by decide) (by decide) (by decide) (by decide) (by decide) (by decide) (by decide) (by decide) (by decide) (by decide) (fun e_1 => ?_) (fun e_1 => ?_) (fun e_1 => ?_) (fun e_1 => ?_) (fun e_1 => ?_) (fun e_1 => ?_) (fun e_1 => ?_) (fun e_1 => ?_) (fun e_1 => ?_) (fun e_1 => ?_) (fun e_1 => ?_) (fun e_1 => ?_) (fun e_1 => ?_) (fun e_1_0 e_1_1 e_1_2 e_1_3 e_1_4 e_1_5 e_1_6 e_1_7 e_1_8 e_1_9 e_1_10 e_1_11 e_1_12 => ?_)
  · skip
    exact absurd e_1 (by decide)
  · skip
    refine j_aload_n dX5_workedOut_123 (q := 124) rfl rfl ?_
    refine j_aload_n dX5_workedOut_124 (q := 125) rfl rfl ?_
    refine j_getIV fs_X5_28 rfl rfl v7 dX5_workedOut_125 (q := 128) rfl ?_
    refine j_iconst (v := 0) dX5_workedOut_128 (q := 129) rfl (by decide) ?_
    refine j_iload_n dX5_workedOut_129 (q := 130) rfl rfl ?_
    refine j_iload dX5_workedOut_130 (q := 132) rfl rfl ?_
    refine j_callVi4 (M' := M_X5_spoken) lk_X5_36 mv_X5_spoken ob_60 (by omega) (Nat.le_of_ble_eq_true rfl) dX5_workedOut_132 (q := 135) rfl (ih K 0 x T σ (by first | assumption | decide) (by decide) hV) ?_
    intro x1 τ1 hz
    obtain ⟨z1, hV1, hF1⟩ := hz
    cases z1
    refine j_iconst (v := 2) dX5_workedOut_135 (q := 136) rfl (by decide) ?_
    refine j_imul dX5_workedOut_136 (q := 137) rfl ?_
    refine j_ireti dX5_workedOut_137 rfl ?_
    exact ⟨rfl, hV1, hF1⟩
  · skip
    exact absurd e_1 (by decide)
  · skip
    exact absurd e_1 (by decide)
  · skip
    exact absurd e_1 (by decide)
  · skip
    exact absurd e_1 (by decide)
  · skip
    exact absurd e_1 (by decide)
  · skip
    exact absurd e_1 (by decide)
  · skip
    exact absurd e_1 (by decide)
  · skip
    exact absurd e_1 (by decide)
  · skip
    exact absurd e_1 (by decide)
  · skip
    exact absurd e_1 (by decide)
  · skip
    exact absurd e_1 (by decide)
  · skip
    exact absurd rfl e_1_1
theorem ct_wo_12 {g : GT} {σ : S_} {av : Int32} {K k ab n dd : Nat} {m x : Int32} {T : VT} (hK : K < 7) (hab : ab < 7) (ih : ∀ (a v : Nat) (x : Int32) (T : VT) (σ : S_), a < 7 → v < 4 → VI K k m σ T → CT g (3 * n + 3) M_X5_spoken [.ref 60, .int (nI a), .int (nI v), .int x, .int (nI dd)] σ (VZ K k m σ (vS K k m n v a x T))) (hV : VI K k m σ T) : CT g (3 * n + 5) M_X5_workedOut [.ref 60, .int 12, .int av, .int x, .int (nI dd)] σ (VZ K k m σ (vB (vS K k m n) K k m 12 ab x T)) := by
  obtain ⟨v1, v2, v3, v4, v5, v6, v7⟩ := id hV
  refine ct_of [.ref 60, .int 12, .int av, .int x, .int (nI dd)] pn_X5_workedOut rfl (Nat.le_of_ble_eq_true rfl) ?_
  refine j_iload_n dX5_workedOut_0 (q := 1) rfl rfl ?_
  refine j_lsw_10_11_12_13_20_21_30_40_50_51_60_70_71 dX5_workedOut_1 (td := 264) (t0 := 116) (t1 := 123) (t2 := 138) (t3 := 156) (t4 := 162) (t5 := 174) (t6 := 183) (t7 := 195) (t8 := 207) (t9 := 219) (t10 := 234) (t11 := 246) (t12 := 249) (by decide) (by decide) (by decide) (by decide) (by decide) (by decide) (by decide) (by decide) (by decide) (by decide) (by decide) (by decide) (by decide) (by decide) (fun e_1 => ?_) (fun e_1 => ?_) (fun e_1 => ?_) (fun e_1 => ?_) (fun e_1 => ?_) (fun e_1 => ?_) (fun e_1 => ?_) (fun e_1 => ?_) (fun e_1 => ?_) (fun e_1 => ?_) (fun e_1 => ?_) (fun e_1 => ?_) (fun e_1 => ?_) (fun e_1_0 e_1_1 e_1_2 e_1_3 e_1_4 e_1_5 e_1_6 e_1_7 e_1_8 e_1_9 e_1_10 e_1_11 e_1_12 => ?_)
  · skip
    exact absurd e_1 (by decide)
  · skip
    exact absurd e_1 (by decide)
  · skip
    refine j_aload_n dX5_workedOut_138 (q := 139) rfl rfl ?_
    refine j_aload_n dX5_workedOut_139 (q := 140) rfl rfl ?_
    refine j_getIV fs_X5_28 rfl rfl v7 dX5_workedOut_140 (q := 143) rfl ?_
    refine j_iconst (v := 1) dX5_workedOut_143 (q := 144) rfl (by decide) ?_
    refine j_iload_n dX5_workedOut_144 (q := 145) rfl rfl ?_
    refine j_iload dX5_workedOut_145 (q := 147) rfl rfl ?_
    refine j_callVi4 (M' := M_X5_spoken) lk_X5_36 mv_X5_spoken ob_60 (by omega) (Nat.le_of_ble_eq_true rfl) dX5_workedOut_147 (q := 150) rfl (ih K 1 x T σ (by first | assumption | decide) (by decide) hV) ?_
    intro x1 τ1 hz
    obtain ⟨z1, hV1, hF1⟩ := hz
    cases z1
    refine j_aload_n dX5_workedOut_150 (q := 151) rfl rfl ?_
    refine j_getIV fs_X5_24 rfl rfl hV1.2.2.2.2.2.1 dX5_workedOut_151 (q := 154) rfl ?_
    refine j_isub dX5_workedOut_154 (q := 155) rfl ?_
    refine j_ireti dX5_workedOut_155 rfl ?_
    exact ⟨rfl, hV1, hF1⟩
  · skip
    exact absurd e_1 (by decide)
  · skip
    exact absurd e_1 (by decide)
  · skip
    exact absurd e_1 (by decide)
  · skip
    exact absurd e_1 (by decide)
  · skip
    exact absurd e_1 (by decide)
  · skip
    exact absurd e_1 (by decide)
  · skip
    exact absurd e_1 (by decide)
  · skip
    exact absurd e_1 (by decide)
  · skip
    exact absurd e_1 (by decide)
  · skip
    exact absurd e_1 (by decide)
  · skip
    exact absurd rfl e_1_2
theorem ct_wo_13 {g : GT} {σ : S_} {av : Int32} {K k ab n dd : Nat} {m x : Int32} {T : VT} (hK : K < 7) (hab : ab < 7) (ih : ∀ (a v : Nat) (x : Int32) (T : VT) (σ : S_), a < 7 → v < 4 → VI K k m σ T → CT g (3 * n + 3) M_X5_spoken [.ref 60, .int (nI a), .int (nI v), .int x, .int (nI dd)] σ (VZ K k m σ (vS K k m n v a x T))) (hV : VI K k m σ T) : CT g (3 * n + 5) M_X5_workedOut [.ref 60, .int 13, .int av, .int x, .int (nI dd)] σ (VZ K k m σ (vB (vS K k m n) K k m 13 ab x T)) := by
  obtain ⟨v1, v2, v3, v4, v5, v6, v7⟩ := id hV
  refine ct_of [.ref 60, .int 13, .int av, .int x, .int (nI dd)] pn_X5_workedOut rfl (Nat.le_of_ble_eq_true rfl) ?_
  refine j_iload_n dX5_workedOut_0 (q := 1) rfl rfl ?_
  refine j_lsw_10_11_12_13_20_21_30_40_50_51_60_70_71 dX5_workedOut_1 (td := 264) (t0 := 116) (t1 := 123) (t2 := 138) (t3 := 156) (t4 := 162) (t5 := 174) (t6 := 183) (t7 := 195) (t8 := 207) (t9 := 219) (t10 := 234) (t11 := 246) (t12 := 249) (by decide) (by decide) (by decide) (by decide) (by decide) (by decide) (by decide) (by decide) (by decide) (by decide) (by decide) (by decide) (by decide) (by decide) (fun e_1 => ?_) (fun e_1 => ?_) (fun e_1 => ?_) (fun e_1 => ?_) (fun e_1 => ?_) (fun e_1 => ?_) (fun e_1 => ?_) (fun e_1 => ?_) (fun e_1 => ?_) (fun e_1 => ?_) (fun e_1 => ?_) (fun e_1 => ?_) (fun e_1 => ?_) (fun e_1_0 e_1_1 e_1_2 e_1_3 e_1_4 e_1_5 e_1_6 e_1_7 e_1_8 e_1_9 e_1_10 e_1_11 e_1_12 => ?_)
  · skip
    exact absurd e_1 (by decide)
  · skip
    exact absurd e_1 (by decide)
  · skip
    exact absurd e_1 (by decide)
  · skip
    refine j_aload_n dX5_workedOut_156 (q := 157) rfl rfl ?_
    refine j_iload_n dX5_workedOut_157 (q := 158) rfl rfl ?_
    refine j_callVi1 (M' := M_X5_partOf) lk_X5_61 mv_X5_partOf ob_60 (by omega) (Nat.le_of_ble_eq_true rfl) dX5_workedOut_158 (q := 161) rfl (ct_X5_partOf (f := vS K k m n) (ab := ab) hV) ?_
    intro x1 τ1 hz
    refine j_ireti dX5_workedOut_161 rfl ?_
    exact hz
  · skip
    exact absurd e_1 (by decide)
  · skip
    exact absurd e_1 (by decide)
  · skip
    exact absurd e_1 (by decide)
  · skip
    exact absurd e_1 (by decide)
  · skip
    exact absurd e_1 (by decide)
  · skip
    exact absurd e_1 (by decide)
  · skip
    exact absurd e_1 (by decide)
  · skip
    exact absurd e_1 (by decide)
  · skip
    exact absurd e_1 (by decide)
  · skip
    exact absurd rfl e_1_3
theorem ct_wo_20 {g : GT} {σ : S_} {K k ab n dd : Nat} {m x : Int32} {T : VT} (hK : K < 7) (hab : ab < 7) (ih : ∀ (a v : Nat) (x : Int32) (T : VT) (σ : S_), a < 7 → v < 4 → VI K k m σ T → CT g (3 * n + 3) M_X5_spoken [.ref 60, .int (nI a), .int (nI v), .int x, .int (nI dd)] σ (VZ K k m σ (vS K k m n v a x T))) (hV : VI K k m σ T) : CT g (3 * n + 5) M_X5_workedOut [.ref 60, .int 20, .int (nI ab), .int x, .int (nI dd)] σ (VZ K k m σ (vB (vS K k m n) K k m 20 ab x T)) := by
  obtain ⟨v1, v2, v3, v4, v5, v6, v7⟩ := id hV
  refine ct_of [.ref 60, .int 20, .int (nI ab), .int x, .int (nI dd)] pn_X5_workedOut rfl (Nat.le_of_ble_eq_true rfl) ?_
  refine j_iload_n dX5_workedOut_0 (q := 1) rfl rfl ?_
  refine j_lsw_10_11_12_13_20_21_30_40_50_51_60_70_71 dX5_workedOut_1 (td := 264) (t0 := 116) (t1 := 123) (t2 := 138) (t3 := 156) (t4 := 162) (t5 := 174) (t6 := 183) (t7 := 195) (t8 := 207) (t9 := 219) (t10 := 234) (t11 := 246) (t12 := 249) (by decide) (by decide) (by decide) (by decide) (by decide) (by decide) (by decide) (by decide) (by decide) (by decide) (by decide) (by decide) (by decide) (by decide) (fun e_1 => ?_) (fun e_1 => ?_) (fun e_1 => ?_) (fun e_1 => ?_) (fun e_1 => ?_) (fun e_1 => ?_) (fun e_1 => ?_) (fun e_1 => ?_) (fun e_1 => ?_) (fun e_1 => ?_) (fun e_1 => ?_) (fun e_1 => ?_) (fun e_1 => ?_) (fun e_1_0 e_1_1 e_1_2 e_1_3 e_1_4 e_1_5 e_1_6 e_1_7 e_1_8 e_1_9 e_1_10 e_1_11 e_1_12 => ?_)
  · skip
    exact absurd e_1 (by decide)
  · skip
    exact absurd e_1 (by decide)
  · skip
    exact absurd e_1 (by decide)
  · skip
    exact absurd e_1 (by decide)
  · skip
    refine j_aload_n dX5_workedOut_162 (q := 163) rfl rfl ?_
    refine j_iload_n dX5_workedOut_163 (q := 164) rfl rfl ?_
    refine j_iconst (v := 0) dX5_workedOut_164 (q := 165) rfl (by decide) ?_
    refine j_iload_n dX5_workedOut_165 (q := 166) rfl rfl ?_
    refine j_iload dX5_workedOut_166 (q := 168) rfl rfl ?_
    refine j_callVi4 (M' := M_X5_spoken) lk_X5_36 mv_X5_spoken ob_60 (by omega) (Nat.le_of_ble_eq_true rfl) dX5_workedOut_168 (q := 171) rfl (ih ab 0 x T σ (by first | assumption | decide) (by decide) hV) ?_
    intro x1 τ1 hz
    obtain ⟨z1, hV1, hF1⟩ := hz
    cases z1
    refine j_iconst (v := 4) dX5_workedOut_171 (q := 172) rfl (by decide) ?_
    refine j_isub dX5_workedOut_172 (q := 173) rfl ?_
    refine j_ireti dX5_workedOut_173 rfl ?_
    exact ⟨rfl, hV1, hF1⟩
  · skip
    exact absurd e_1 (by decide)
  · skip
    exact absurd e_1 (by decide)
  · skip
    exact absurd e_1 (by decide)
  · skip
    exact absurd e_1 (by decide)
  · skip
    exact absurd e_1 (by decide)
  · skip
    exact absurd e_1 (by decide)
  · skip
    exact absurd e_1 (by decide)
  · skip
    exact absurd e_1 (by decide)
  · skip
    exact absurd rfl e_1_4
theorem ct_wo_21 {g : GT} {σ : S_} {K k ab n dd : Nat} {m x : Int32} {T : VT} (hK : K < 7) (hab : ab < 7) (ih : ∀ (a v : Nat) (x : Int32) (T : VT) (σ : S_), a < 7 → v < 4 → VI K k m σ T → CT g (3 * n + 3) M_X5_spoken [.ref 60, .int (nI a), .int (nI v), .int x, .int (nI dd)] σ (VZ K k m σ (vS K k m n v a x T))) (hV : VI K k m σ T) : CT g (3 * n + 5) M_X5_workedOut [.ref 60, .int 21, .int (nI ab), .int x, .int (nI dd)] σ (VZ K k m σ (vB (vS K k m n) K k m 21 ab x T)) := by
  obtain ⟨v1, v2, v3, v4, v5, v6, v7⟩ := id hV
  refine ct_of [.ref 60, .int 21, .int (nI ab), .int x, .int (nI dd)] pn_X5_workedOut rfl (Nat.le_of_ble_eq_true rfl) ?_
  refine j_iload_n dX5_workedOut_0 (q := 1) rfl rfl ?_
  refine j_lsw_10_11_12_13_20_21_30_40_50_51_60_70_71 dX5_workedOut_1 (td := 264) (t0 := 116) (t1 := 123) (t2 := 138) (t3 := 156) (t4 := 162) (t5 := 174) (t6 := 183) (t7 := 195) (t8 := 207) (t9 := 219) (t10 := 234) (t11 := 246) (t12 := 249) (by decide) (by decide) (by decide) (by decide) (by decide) (by decide) (by decide) (by decide) (by decide) (by decide) (by decide) (by decide) (by decide) (by decide) (fun e_1 => ?_) (fun e_1 => ?_) (fun e_1 => ?_) (fun e_1 => ?_) (fun e_1 => ?_) (fun e_1 => ?_) (fun e_1 => ?_) (fun e_1 => ?_) (fun e_1 => ?_) (fun e_1 => ?_) (fun e_1 => ?_) (fun e_1 => ?_) (fun e_1 => ?_) (fun e_1_0 e_1_1 e_1_2 e_1_3 e_1_4 e_1_5 e_1_6 e_1_7 e_1_8 e_1_9 e_1_10 e_1_11 e_1_12 => ?_)
  · skip
    exact absurd e_1 (by decide)
  · skip
    exact absurd e_1 (by decide)
  · skip
    exact absurd e_1 (by decide)
  · skip
    exact absurd e_1 (by decide)
  · skip
    exact absurd e_1 (by decide)
  · skip
    refine j_aload_n dX5_workedOut_174 (q := 175) rfl rfl ?_
    refine j_iload_n dX5_workedOut_175 (q := 176) rfl rfl ?_
    refine j_iload_n dX5_workedOut_176 (q := 177) rfl rfl ?_
    refine j_iload dX5_workedOut_177 (q := 179) rfl rfl ?_
    refine j_callVi3 (M' := M_X5_partAndSips) lk_X5_64 mv_X5_partAndSips ob_60 (by omega) (Nat.le_of_ble_eq_true rfl) dX5_workedOut_179 (q := 182) rfl (ct_X5_partAndSips hK hab ih hV) ?_
    intro x1 τ1 hz
    refine j_ireti dX5_workedOut_182 rfl ?_
    exact hz
  · skip
    exact absurd e_1 (by decide)
  · skip
    exact absurd e_1 (by decide)
  · skip
    exact absurd e_1 (by decide)
  · skip
    exact absurd e_1 (by decide)
  · skip
    exact absurd e_1 (by decide)
  · skip
    exact absurd e_1 (by decide)
  · skip
    exact absurd e_1 (by decide)
  · skip
    exact absurd rfl e_1_5
theorem ct_wo_30 {g : GT} {σ : S_} {K k ab n dd : Nat} {m x : Int32} {T : VT} (hK : K < 7) (hab : ab < 7) (ih : ∀ (a v : Nat) (x : Int32) (T : VT) (σ : S_), a < 7 → v < 4 → VI K k m σ T → CT g (3 * n + 3) M_X5_spoken [.ref 60, .int (nI a), .int (nI v), .int x, .int (nI dd)] σ (VZ K k m σ (vS K k m n v a x T))) (hV : VI K k m σ T) : CT g (3 * n + 5) M_X5_workedOut [.ref 60, .int 30, .int (nI ab), .int x, .int (nI dd)] σ (VZ K k m σ (vB (vS K k m n) K k m 30 ab x T)) := by
  obtain ⟨v1, v2, v3, v4, v5, v6, v7⟩ := id hV
  refine ct_of [.ref 60, .int 30, .int (nI ab), .int x, .int (nI dd)] pn_X5_workedOut rfl (Nat.le_of_ble_eq_true rfl) ?_
  refine j_iload_n dX5_workedOut_0 (q := 1) rfl rfl ?_
  refine j_lsw_10_11_12_13_20_21_30_40_50_51_60_70_71 dX5_workedOut_1 (td := 264) (t0 := 116) (t1 := 123) (t2 := 138) (t3 := 156) (t4 := 162) (t5 := 174) (t6 := 183) (t7 := 195) (t8 := 207) (t9 := 219) (t10 := 234) (t11 := 246) (t12 := 249) (by decide) (by decide) (by decide) (by decide) (by decide) (by decide) (by decide) (by decide) (by decide) (by decide) (by decide) (by decide) (by decide) (by decide) (fun e_1 => ?_) (fun e_1 => ?_) (fun e_1 => ?_) (fun e_1 => ?_) (fun e_1 => ?_) (fun e_1 => ?_) (fun e_1 => ?_) (fun e_1 => ?_) (fun e_1 => ?_) (fun e_1 => ?_) (fun e_1 => ?_) (fun e_1 => ?_) (fun e_1 => ?_) (fun e_1_0 e_1_1 e_1_2 e_1_3 e_1_4 e_1_5 e_1_6 e_1_7 e_1_8 e_1_9 e_1_10 e_1_11 e_1_12 => ?_)
  · skip
    exact absurd e_1 (by decide)
  · skip
    exact absurd e_1 (by decide)
  · skip
    exact absurd e_1 (by decide)
  · skip
    exact absurd e_1 (by decide)
  · skip
    exact absurd e_1 (by decide)
  · skip
    exact absurd e_1 (by decide)
  · skip
    refine j_iconst (v := 0) dX5_workedOut_183 (q := 184) rfl (by decide) ?_
    refine j_aload_n dX5_workedOut_184 (q := 185) rfl rfl ?_
    refine j_iload_n dX5_workedOut_185 (q := 186) rfl rfl ?_
    refine j_iconst (v := 1) dX5_workedOut_186 (q := 187) rfl (by decide) ?_
    refine j_iload_n dX5_workedOut_187 (q := 188) rfl rfl ?_
    refine j_iload dX5_workedOut_188 (q := 190) rfl rfl ?_
    refine j_callVi4 (M' := M_X5_spoken) lk_X5_36 mv_X5_spoken ob_60 (by omega) (Nat.le_of_ble_eq_true rfl) dX5_workedOut_190 (q := 193) rfl (ih ab 1 x T σ (by first | assumption | decide) (by decide) hV) ?_
    intro x1 τ1 hz
    obtain ⟨z1, hV1, hF1⟩ := hz
    cases z1
    refine j_isub dX5_workedOut_193 (q := 194) rfl ?_
    refine j_ireti dX5_workedOut_194 rfl ?_
    exact ⟨rfl, hV1, hF1⟩
  · skip
    exact absurd e_1 (by decide)
  · skip
    exact absurd e_1 (by decide)
  · skip
    exact absurd e_1 (by decide)
  · skip
    exact absurd e_1 (by decide)
  · skip
    exact absurd e_1 (by decide)
  · skip
    exact absurd e_1 (by decide)
  · skip
    exact absurd rfl e_1_6
theorem ct_wo_40 {g : GT} {σ : S_} {K k ab n dd : Nat} {m x : Int32} {T : VT} (hK : K < 7) (hab : ab < 7) (ih : ∀ (a v : Nat) (x : Int32) (T : VT) (σ : S_), a < 7 → v < 4 → VI K k m σ T → CT g (3 * n + 3) M_X5_spoken [.ref 60, .int (nI a), .int (nI v), .int x, .int (nI dd)] σ (VZ K k m σ (vS K k m n v a x T))) (hV : VI K k m σ T) : CT g (3 * n + 5) M_X5_workedOut [.ref 60, .int 40, .int (nI ab), .int x, .int (nI dd)] σ (VZ K k m σ (vB (vS K k m n) K k m 40 ab x T)) := by
  obtain ⟨v1, v2, v3, v4, v5, v6, v7⟩ := id hV
  refine ct_of [.ref 60, .int 40, .int (nI ab), .int x, .int (nI dd)] pn_X5_workedOut rfl (Nat.le_of_ble_eq_true rfl) ?_
  refine j_iload_n dX5_workedOut_0 (q := 1) rfl rfl ?_
  refine j_lsw_10_11_12_13_20_21_30_40_50_51_60_70_71 dX5_workedOut_1 (td := 264) (t0 := 116) (t1 := 123) (t2 := 138) (t3 := 156) (t4 := 162) (t5 := 174) (t6 := 183) (t7 := 195) (t8 := 207) (t9 := 219) (t10 := 234) (t11 := 246) (t12 := 249) (by decide) (by decide) (by decide) (by decide) (by decide) (by decide) (by decide) (by decide) (by decide) (by decide) (by decide) (by decide) (by decide) (by decide) (fun e_1 => ?_) (fun e_1 => ?_) (fun e_1 => ?_) (fun e_1 => ?_) (fun e_1 => ?_) (fun e_1 => ?_) (fun e_1 => ?_) (fun e_1 => ?_) (fun e_1 => ?_) (fun e_1 => ?_) (fun e_1 => ?_) (fun e_1 => ?_) (fun e_1 => ?_) (fun e_1_0 e_1_1 e_1_2 e_1_3 e_1_4 e_1_5 e_1_6 e_1_7 e_1_8 e_1_9 e_1_10 e_1_11 e_1_12 => ?_)
  · skip
    exact absurd e_1 (by decide)
  · skip
    exact absurd e_1 (by decide)
  · skip
    exact absurd e_1 (by decide)
  · skip
    exact absurd e_1 (by decide)
  · skip
    exact absurd e_1 (by decide)
  · skip
    exact absurd e_1 (by decide)
  · skip
    exact absurd e_1 (by decide)
  · skip
    refine j_aload_n dX5_workedOut_195 (q := 196) rfl rfl ?_
    refine j_iload_n dX5_workedOut_196 (q := 197) rfl rfl ?_
    refine j_iconst (v := 2) dX5_workedOut_197 (q := 198) rfl (by decide) ?_
    refine j_iload_n dX5_workedOut_198 (q := 199) rfl rfl ?_
    refine j_iconst (v := 2) dX5_workedOut_199 (q := 200) rfl (by decide) ?_
    refine j_idiv dX5_workedOut_200 (q := 201) rfl (by decide) ?_
    refine j_iload dX5_workedOut_201 (q := 203) rfl rfl ?_
    refine j_callVi4 (M' := M_X5_spoken) lk_X5_36 mv_X5_spoken ob_60 (by omega) (Nat.le_of_ble_eq_true rfl) dX5_workedOut_203 (q := 206) rfl (ih ab 2 (x / 2) T σ (by first | assumption | decide) (by decide) hV) ?_
    intro x1 τ1 hz
    obtain ⟨z1, hV1, hF1⟩ := hz
    cases z1
    refine j_ireti dX5_workedOut_206 rfl ?_
    exact ⟨rfl, hV1, hF1⟩
  · skip
    exact absurd e_1 (by decide)
  · skip
    exact absurd e_1 (by decide)
  · skip
    exact absurd e_1 (by decide)
  · skip
    exact absurd e_1 (by decide)
  · skip
    exact absurd e_1 (by decide)
  · skip
    exact absurd rfl e_1_7
theorem ct_wo_50 {g : GT} {σ : S_} {K k ab n dd : Nat} {m x : Int32} {T : VT} (hK : K < 7) (hab : ab < 7) (ih : ∀ (a v : Nat) (x : Int32) (T : VT) (σ : S_), a < 7 → v < 4 → VI K k m σ T → CT g (3 * n + 3) M_X5_spoken [.ref 60, .int (nI a), .int (nI v), .int x, .int (nI dd)] σ (VZ K k m σ (vS K k m n v a x T))) (hV : VI K k m σ T) : CT g (3 * n + 5) M_X5_workedOut [.ref 60, .int 50, .int (nI ab), .int x, .int (nI dd)] σ (VZ K k m σ (vB (vS K k m n) K k m 50 ab x T)) := by
  obtain ⟨v1, v2, v3, v4, v5, v6, v7⟩ := id hV
  refine ct_of [.ref 60, .int 50, .int (nI ab), .int x, .int (nI dd)] pn_X5_workedOut rfl (Nat.le_of_ble_eq_true rfl) ?_
  refine j_iload_n dX5_workedOut_0 (q := 1) rfl rfl ?_
  refine j_lsw_10_11_12_13_20_21_30_40_50_51_60_70_71 dX5_workedOut_1 (td := 264) (t0 := 116) (t1 := 123) (t2 := 138) (t3 := 156) (t4 := 162) (t5 := 174) (t6 := 183) (t7 := 195) (t8 := 207) (t9 := 219) (t10 := 234) (t11 := 246) (t12 := 249) (by decide) (by decide) (by decide) (by decide) (by decide) (by decide) (by decide) (by decide) (by decide) (by decide) (by decide) (by decide) (by decide) (by decide) (fun e_1 => ?_) (fun e_1 => ?_) (fun e_1 => ?_) (fun e_1 => ?_) (fun e_1 => ?_) (fun e_1 => ?_) (fun e_1 => ?_) (fun e_1 => ?_) (fun e_1 => ?_) (fun e_1 => ?_) (fun e_1 => ?_) (fun e_1 => ?_) (fun e_1 => ?_) (fun e_1_0 e_1_1 e_1_2 e_1_3 e_1_4 e_1_5 e_1_6 e_1_7 e_1_8 e_1_9 e_1_10 e_1_11 e_1_12 => ?_)
  · skip
    exact absurd e_1 (by decide)
  · skip
    exact absurd e_1 (by decide)
  · skip
    exact absurd e_1 (by decide)
  · skip
    exact absurd e_1 (by decide)
  · skip
    exact absurd e_1 (by decide)
  · skip
    exact absurd e_1 (by decide)
  · skip
    exact absurd e_1 (by decide)
  · skip
    exact absurd e_1 (by decide)
  · skip
    refine j_aload_n dX5_workedOut_207 (q := 208) rfl rfl ?_
    refine j_iload_n dX5_workedOut_208 (q := 209) rfl rfl ?_
    refine j_iconst (v := 0) dX5_workedOut_209 (q := 210) rfl (by decide) ?_
    refine j_iload_n dX5_workedOut_210 (q := 211) rfl rfl ?_
    refine j_iload dX5_workedOut_211 (q := 213) rfl rfl ?_
    refine j_callVi4 (M' := M_X5_spoken) lk_X5_36 mv_X5_spoken ob_60 (by omega) (Nat.le_of_ble_eq_true rfl) dX5_workedOut_213 (q := 216) rfl (ih ab 0 x T σ (by first | assumption | decide) (by decide) hV) ?_
    intro x1 τ1 hz
    obtain ⟨z1, hV1, hF1⟩ := hz
    cases z1
    refine j_iconst (v := 3) dX5_workedOut_216 (q := 217) rfl (by decide) ?_
    refine j_imul dX5_workedOut_217 (q := 218) rfl ?_
    refine j_ireti dX5_workedOut_218 rfl ?_
    exact ⟨rfl, hV1, hF1⟩
  · skip
    exact absurd e_1 (by decide)
  · skip
    exact absurd e_1 (by decide)
  · skip
    exact absurd e_1 (by decide)
  · skip
    exact absurd e_1 (by decide)
  · skip
    exact absurd rfl e_1_8
theorem ct_wo_51 {g : GT} {σ : S_} {K k ab n dd : Nat} {m x : Int32} {T : VT} (hK : K < 7) (hab : ab < 7) (ih : ∀ (a v : Nat) (x : Int32) (T : VT) (σ : S_), a < 7 → v < 4 → VI K k m σ T → CT g (3 * n + 3) M_X5_spoken [.ref 60, .int (nI a), .int (nI v), .int x, .int (nI dd)] σ (VZ K k m σ (vS K k m n v a x T))) (hV : VI K k m σ T) : CT g (3 * n + 5) M_X5_workedOut [.ref 60, .int 51, .int (nI ab), .int x, .int (nI dd)] σ (VZ K k m σ (vB (vS K k m n) K k m 51 ab x T)) := by
  obtain ⟨v1, v2, v3, v4, v5, v6, v7⟩ := id hV
  refine ct_of [.ref 60, .int 51, .int (nI ab), .int x, .int (nI dd)] pn_X5_workedOut rfl (Nat.le_of_ble_eq_true rfl) ?_
  refine j_iload_n dX5_workedOut_0 (q := 1) rfl rfl ?_
  refine j_lsw_10_11_12_13_20_21_30_40_50_51_60_70_71 dX5_workedOut_1 (td := 264) (t0 := 116) (t1 := 123) (t2 := 138) (t3 := 156) (t4 := 162) (t5 := 174) (t6 := 183) (t7 := 195) (t8 := 207) (t9 := 219) (t10 := 234) (t11 := 246) (t12 := 249) (by decide) (by decide) (by decide) (by decide) (by decide) (by decide) (by decide) (by decide) (by decide) (by decide) (by decide) (by decide) (by decide) (by decide) (fun e_1 => ?_) (fun e_1 => ?_) (fun e_1 => ?_) (fun e_1 => ?_) (fun e_1 => ?_) (fun e_1 => ?_) (fun e_1 => ?_) (fun e_1 => ?_) (fun e_1 => ?_) (fun e_1 => ?_) (fun e_1 => ?_) (fun e_1 => ?_) (fun e_1 => ?_) (fun e_1_0 e_1_1 e_1_2 e_1_3 e_1_4 e_1_5 e_1_6 e_1_7 e_1_8 e_1_9 e_1_10 e_1_11 e_1_12 => ?_)
  · skip
    exact absurd e_1 (by decide)
  · skip
    exact absurd e_1 (by decide)
  · skip
    exact absurd e_1 (by decide)
  · skip
    exact absurd e_1 (by decide)
  · skip
    exact absurd e_1 (by decide)
  · skip
    exact absurd e_1 (by decide)
  · skip
    exact absurd e_1 (by decide)
  · skip
    exact absurd e_1 (by decide)
  · skip
    exact absurd e_1 (by decide)
  · skip
    refine j_aload_n dX5_workedOut_219 (q := 220) rfl rfl ?_
    refine j_iload_n dX5_workedOut_220 (q := 221) rfl rfl ?_
    refine j_iconst (v := 2) dX5_workedOut_221 (q := 222) rfl (by decide) ?_
    refine j_iload_n dX5_workedOut_222 (q := 223) rfl rfl ?_
    refine j_iload dX5_workedOut_223 (q := 225) rfl rfl ?_
    refine j_callVi4 (M' := M_X5_spoken) lk_X5_36 mv_X5_spoken ob_60 (by omega) (Nat.le_of_ble_eq_true rfl) dX5_workedOut_225 (q := 228) rfl (ih ab 2 x T σ (by first | assumption | decide) (by decide) hV) ?_
    intro x1 τ1 hz
    obtain ⟨z1, hV1, hF1⟩ := hz
    cases z1
    refine j_aload_n dX5_workedOut_228 (q := 229) rfl rfl ?_
    refine j_getIV fs_X5_15 rfl rfl hV1.2.2.2.2.1 dX5_workedOut_229 (q := 232) rfl ?_
    refine j_ixor dX5_workedOut_232 (q := 233) rfl ?_
    refine j_ireti dX5_workedOut_233 rfl ?_
    exact ⟨rfl, hV1, hF1⟩
  · skip
    exact absurd e_1 (by decide)
  · skip
    exact absurd e_1 (by decide)
  · skip
    exact absurd e_1 (by decide)
  · skip
    exact absurd rfl e_1_9
theorem ct_wo_60 {g : GT} {σ : S_} {K k ab n dd : Nat} {m x : Int32} {T : VT} (hK : K < 7) (hab : ab < 7) (ih : ∀ (a v : Nat) (x : Int32) (T : VT) (σ : S_), a < 7 → v < 4 → VI K k m σ T → CT g (3 * n + 3) M_X5_spoken [.ref 60, .int (nI a), .int (nI v), .int x, .int (nI dd)] σ (VZ K k m σ (vS K k m n v a x T))) (hV : VI K k m σ T) : CT g (3 * n + 5) M_X5_workedOut [.ref 60, .int 60, .int (nI ab), .int x, .int (nI dd)] σ (VZ K k m σ (vB (vS K k m n) K k m 60 ab x T)) := by
  obtain ⟨v1, v2, v3, v4, v5, v6, v7⟩ := id hV
  refine ct_of [.ref 60, .int 60, .int (nI ab), .int x, .int (nI dd)] pn_X5_workedOut rfl (Nat.le_of_ble_eq_true rfl) ?_
  refine j_iload_n dX5_workedOut_0 (q := 1) rfl rfl ?_
  refine j_lsw_10_11_12_13_20_21_30_40_50_51_60_70_71 dX5_workedOut_1 (td := 264) (t0 := 116) (t1 := 123) (t2 := 138) (t3 := 156) (t4 := 162) (t5 := 174) (t6 := 183) (t7 := 195) (t8 := 207) (t9 := 219) (t10 := 234) (t11 := 246) (t12 := 249) (by decide) (by decide) (by decide) (by decide) (by decide) (by decide) (by decide) (by decide) (by decide) (by decide) (by decide) (by decide) (by decide) (by decide) (fun e_1 => ?_) (fun e_1 => ?_) (fun e_1 => ?_) (fun e_1 => ?_) (fun e_1 => ?_) (fun e_1 => ?_) (fun e_1 => ?_) (fun e_1 => ?_) (fun e_1 => ?_) (fun e_1 => ?_) (fun e_1 => ?_) (fun e_1 => ?_) (fun e_1 => ?_) (fun e_1_0 e_1_1 e_1_2 e_1_3 e_1_4 e_1_5 e_1_6 e_1_7 e_1_8 e_1_9 e_1_10 e_1_11 e_1_12 => ?_)
  · skip
    exact absurd e_1 (by decide)
  · skip
    exact absurd e_1 (by decide)
  · skip
    exact absurd e_1 (by decide)
  · skip
    exact absurd e_1 (by decide)
  · skip
    exact absurd e_1 (by decide)
  · skip
    exact absurd e_1 (by decide)
  · skip
    exact absurd e_1 (by decide)
  · skip
    exact absurd e_1 (by decide)
  · skip
    exact absurd e_1 (by decide)
  · skip
    exact absurd e_1 (by decide)
  · skip
    refine j_aload_n dX5_workedOut_234 (q := 235) rfl rfl ?_
    refine j_iload_n dX5_workedOut_235 (q := 236) rfl rfl ?_
    refine j_iconst (v := 1) dX5_workedOut_236 (q := 237) rfl (by decide) ?_
    refine j_iload_n dX5_workedOut_237 (q := 238) rfl rfl ?_
    refine j_iconst (v := 1) dX5_workedOut_238 (q := 239) rfl (by decide) ?_
    refine j_iadd dX5_workedOut_239 (q := 240) rfl ?_
    refine j_iload dX5_workedOut_240 (q := 242) rfl rfl ?_
    refine j_callVi4 (M' := M_X5_spoken) lk_X5_36 mv_X5_spoken ob_60 (by omega) (Nat.le_of_ble_eq_true rfl) dX5_workedOut_242 (q := 245) rfl (ih ab 1 (x + 1) T σ (by first | assumption | decide) (by decide) hV) ?_
    intro x1 τ1 hz
    obtain ⟨z1, hV1, hF1⟩ := hz
    cases z1
    refine j_ireti dX5_workedOut_245 rfl ?_
    exact ⟨rfl, hV1, hF1⟩
  · skip
    exact absurd e_1 (by decide)
  · skip
    exact absurd e_1 (by decide)
  · skip
    exact absurd rfl e_1_10
theorem ct_wo_70 {g : GT} {σ : S_} {K k ab n dd : Nat} {m x : Int32} {T : VT} (hK : K < 7) (hab : ab < 7) (ih : ∀ (a v : Nat) (x : Int32) (T : VT) (σ : S_), a < 7 → v < 4 → VI K k m σ T → CT g (3 * n + 3) M_X5_spoken [.ref 60, .int (nI a), .int (nI v), .int x, .int (nI dd)] σ (VZ K k m σ (vS K k m n v a x T))) (hV : VI K k m σ T) : CT g (3 * n + 5) M_X5_workedOut [.ref 60, .int 70, .int (nI ab), .int x, .int (nI dd)] σ (VZ K k m σ (vB (vS K k m n) K k m 70 ab x T)) := by
  obtain ⟨v1, v2, v3, v4, v5, v6, v7⟩ := id hV
  refine ct_of [.ref 60, .int 70, .int (nI ab), .int x, .int (nI dd)] pn_X5_workedOut rfl (Nat.le_of_ble_eq_true rfl) ?_
  refine j_iload_n dX5_workedOut_0 (q := 1) rfl rfl ?_
  refine j_lsw_10_11_12_13_20_21_30_40_50_51_60_70_71 dX5_workedOut_1 (td := 264) (t0 := 116) (t1 := 123) (t2 := 138) (t3 := 156) (t4 := 162) (t5 := 174) (t6 := 183) (t7 := 195) (t8 := 207) (t9 := 219) (t10 := 234) (t11 := 246) (t12 := 249) (by decide) (by decide) (by decide) (by decide) (by decide) (by decide) (by decide) (by decide) (by decide) (by decide) (by decide) (by decide) (by decide) (by decide) (fun e_1 => ?_) (fun e_1 => ?_) (fun e_1 => ?_) (fun e_1 => ?_) (fun e_1 => ?_) (fun e_1 => ?_) (fun e_1 => ?_) (fun e_1 => ?_) (fun e_1 => ?_) (fun e_1 => ?_) (fun e_1 => ?_) (fun e_1 => ?_) (fun e_1 => ?_) (fun e_1_0 e_1_1 e_1_2 e_1_3 e_1_4 e_1_5 e_1_6 e_1_7 e_1_8 e_1_9 e_1_10 e_1_11 e_1_12 => ?_)
  · skip
    exact absurd e_1 (by decide)
  · skip
    exact absurd e_1 (by decide)
  · skip
    exact absurd e_1 (by decide)
  · skip
    exact absurd e_1 (by decide)
  · skip
    exact absurd e_1 (by decide)
  · skip
    exact absurd e_1 (by decide)
  · skip
    exact absurd e_1 (by decide)
  · skip
    exact absurd e_1 (by decide)
  · skip
    exact absurd e_1 (by decide)
  · skip
    exact absurd e_1 (by decide)
  · skip
    exact absurd e_1 (by decide)
  · skip
    refine j_bipush (v := 9) dX5_workedOut_246 (q := 248) rfl (by decide) ?_
    refine j_ireti dX5_workedOut_248 rfl ?_
    exact ⟨rfl, hV, fun _ _ _ => rfl⟩
  · skip
    exact absurd e_1 (by decide)
  · skip
    exact absurd rfl e_1_11
theorem ct_wo_71 {g : GT} {σ : S_} {K k ab n dd : Nat} {m x : Int32} {T : VT} (hK : K < 7) (hab : ab < 7) (ih : ∀ (a v : Nat) (x : Int32) (T : VT) (σ : S_), a < 7 → v < 4 → VI K k m σ T → CT g (3 * n + 3) M_X5_spoken [.ref 60, .int (nI a), .int (nI v), .int x, .int (nI dd)] σ (VZ K k m σ (vS K k m n v a x T))) (hV : VI K k m σ T) : CT g (3 * n + 5) M_X5_workedOut [.ref 60, .int 71, .int (nI ab), .int x, .int (nI dd)] σ (VZ K k m σ (vB (vS K k m n) K k m 71 ab x T)) := by
  obtain ⟨v1, v2, v3, v4, v5, v6, v7⟩ := id hV
  refine ct_of [.ref 60, .int 71, .int (nI ab), .int x, .int (nI dd)] pn_X5_workedOut rfl (Nat.le_of_ble_eq_true rfl) ?_
  refine j_iload_n dX5_workedOut_0 (q := 1) rfl rfl ?_
  refine j_lsw_10_11_12_13_20_21_30_40_50_51_60_70_71 dX5_workedOut_1 (td := 264) (t0 := 116) (t1 := 123) (t2 := 138) (t3 := 156) (t4 := 162) (t5 := 174) (t6 := 183) (t7 := 195) (t8 := 207) (t9 := 219) (t10 := 234) (t11 := 246) (t12 := 249) (by decide) (by decide) (by decide) (by decide) (by decide) (by decide) (by decide) (by decide) (by decide) (by decide) (by decide) (by decide) (by decide) (by decide) (fun e_1 => ?_) (fun e_1 => ?_) (fun e_1 => ?_) (fun e_1 => ?_) (fun e_1 => ?_) (fun e_1 => ?_) (fun e_1 => ?_) (fun e_1 => ?_) (fun e_1 => ?_) (fun e_1 => ?_) (fun e_1 => ?_) (fun e_1 => ?_) (fun e_1 => ?_) (fun e_1_0 e_1_1 e_1_2 e_1_3 e_1_4 e_1_5 e_1_6 e_1_7 e_1_8 e_1_9 e_1_10 e_1_11 e_1_12 => ?_)
  · skip
    exact absurd e_1 (by decide)
  · skip
    exact absurd e_1 (by decide)
  · skip
    exact absurd e_1 (by decide)
  · skip
    exact absurd e_1 (by decide)
  · skip
    exact absurd e_1 (by decide)
  · skip
    exact absurd e_1 (by decide)
  · skip
    exact absurd e_1 (by decide)
  · skip
    exact absurd e_1 (by decide)
  · skip
    exact absurd e_1 (by decide)
  · skip
    exact absurd e_1 (by decide)
  · skip
    exact absurd e_1 (by decide)
  · skip
    exact absurd e_1 (by decide)
  · skip
    refine j_aload_n dX5_workedOut_249 (q := 250) rfl rfl ?_
    refine j_iload_n dX5_workedOut_250 (q := 251) rfl rfl ?_
    refine j_iconst (v := 1) dX5_workedOut_251 (q := 252) rfl (by decide) ?_
    refine j_iload_n dX5_workedOut_252 (q := 253) rfl rfl ?_
    refine j_iload dX5_workedOut_253 (q := 255) rfl rfl ?_
    refine j_callVi4 (M' := M_X5_spoken) lk_X5_36 mv_X5_spoken ob_60 (by omega) (Nat.le_of_ble_eq_true rfl) dX5_workedOut_255 (q := 258) rfl (ih ab 1 x T σ (by first | assumption | decide) (by decide) hV) ?_
    intro x1 τ1 hz
    obtain ⟨z1, hV1, hF1⟩ := hz
    cases z1
    refine j_aload_n dX5_workedOut_258 (q := 259) rfl rfl ?_
    refine j_getIV fs_X5_24 rfl rfl hV1.2.2.2.2.2.1 dX5_workedOut_259 (q := 262) rfl ?_
    refine j_iadd dX5_workedOut_262 (q := 263) rfl ?_
    refine j_ireti dX5_workedOut_263 rfl ?_
    exact ⟨rfl, hV1, hF1⟩
  · skip
    exact absurd rfl e_1_12
theorem ow_13 : ∀ a, a < 7 → ∀ v, v < 4 → (owN v a, v) ∈ ([(0, 0), (0, 1), (0, 2), (0, 3), (1, 0), (1, 3), (2, 1), (3, 2), (4, 0), (4, 2), (5, 1), (6, 0), (6, 1)] : List (Nat × Nat)) := by decide +kernel
theorem wo_any {g : GT} {σ : S_} {a v : Nat} (ha : a < 7) (hv : v < 4) {K k n dd : Nat} {m x : Int32} {T : VT} (hK : K < 7) (ih : ∀ (a v : Nat) (x : Int32) (T : VT) (σ : S_), a < 7 → v < 4 → VI K k m σ T → CT g (3 * n + 3) M_X5_spoken [.ref 60, .int (nI a), .int (nI v), .int x, .int (nI dd)] σ (VZ K k m σ (vS K k m n v a x T))) (hV : VI K k m σ T) : CT g (3 * n + 5) M_X5_workedOut [.ref 60, .int (nI (bdN (owN v a) v)), .int (kAb (nI (owN v a))), .int x, .int (nI dd)] σ (VZ K k m σ (vB (vS K k m n) K k m (bdN (owN v a) v) (abN (owN v a)) x T)) := by
  have h13 := ow_13 a ha v hv
  simp only [List.mem_cons, Prod.mk.injEq, List.not_mem_nil, or_false] at h13
  rcases h13 with ⟨e, rfl⟩ | ⟨e, rfl⟩ | ⟨e, rfl⟩ | ⟨e, rfl⟩ | ⟨e, rfl⟩ | ⟨e, rfl⟩ | ⟨e, rfl⟩ | ⟨e, rfl⟩ | ⟨e, rfl⟩ | ⟨e, rfl⟩ | ⟨e, rfl⟩ | ⟨e, rfl⟩ | ⟨e, rfl⟩ <;> rw [e]
  · exact ct_wo_10 (ab := 0) hK (by decide) ih hV
  · exact ct_wo_11 (ab := 0) hK (by decide) ih hV
  · exact ct_wo_12 (ab := 0) hK (by decide) ih hV
  · exact ct_wo_13 (ab := 0) hK (by decide) ih hV
  · rw [show kAb (nI 1) = nI (abN 1) from kAb_N 1 (by decide) (by decide)]
    exact ct_wo_20 (ab := abN 1) hK (by decide) ih hV
  · rw [show kAb (nI 1) = nI (abN 1) from kAb_N 1 (by decide) (by decide)]
    exact ct_wo_21 (ab := abN 1) hK (by decide) ih hV
  · rw [show kAb (nI 2) = nI (abN 2) from kAb_N 2 (by decide) (by decide)]
    exact ct_wo_30 (ab := abN 2) hK (by decide) ih hV
  · rw [show kAb (nI 3) = nI (abN 3) from kAb_N 3 (by decide) (by decide)]
    exact ct_wo_40 (ab := abN 3) hK (by decide) ih hV
  · rw [show kAb (nI 4) = nI (abN 4) from kAb_N 4 (by decide) (by decide)]
    exact ct_wo_50 (ab := abN 4) hK (by decide) ih hV
  · rw [show kAb (nI 4) = nI (abN 4) from kAb_N 4 (by decide) (by decide)]
    exact ct_wo_51 (ab := abN 4) hK (by decide) ih hV
  · rw [show kAb (nI 5) = nI (abN 5) from kAb_N 5 (by decide) (by decide)]
    exact ct_wo_60 (ab := abN 5) hK (by decide) ih hV
  · rw [show kAb (nI 6) = nI (abN 6) from kAb_N 6 (by decide) (by decide)]
    exact ct_wo_70 (ab := abN 6) hK (by decide) ih hV
  · rw [show kAb (nI 6) = nI (abN 6) from kAb_N 6 (by decide) (by decide)]
    exact ct_wo_71 (ab := abN 6) hK (by decide) ih hV
theorem sp_zero {g : GT} {σ : S_} {K k a v dd : Nat} {m x : Int32} {T : VT} (ha : a < 7) (hv : v < 4) (hdd : dd = 21) (hV : VI K k m σ T) : CT g 3 M_X5_spoken [.ref 60, .int (nI a), .int (nI v), .int x, .int (nI dd)] σ (VZ K k m σ (0, T)) := by
  have ho := owN_lt a ha v hv
  refine ct_of [.ref 60, .int (nI a), .int (nI v), .int x, .int (nI dd), .null, .null] pn_X5_spoken rfl (Nat.le_of_ble_eq_true rfl) ?_
  refine j_iload_n dX5_spoken_0 (q := 1) rfl rfl ?_
  refine j_iload_n dX5_spoken_1 (q := 2) rfl rfl ?_
  refine j_callSi2E (M' := M_X5_ownerOf) lk_X5_40 ms_X5_ownerOf (by decide) (Nat.le_of_ble_eq_true rfl) dX5_spoken_2 (q := 5) rfl (ct_X5_ownerOf ha hv) ?_
  refine j_istore_7_5 dX5_spoken_5 (q := 7) rfl rfl rfl ?_
  refine j_iload dX5_spoken_7 (q := 9) rfl rfl ?_
  refine j_if_ltN (by omega) dX5_spoken_9 (t := 19) (by decide) (q := 12) rfl (fun c_9 => ?_) (fun c_9 => ?_)
  · skip
    omega
  · skip
    refine j_iload dX5_spoken_12 (q := 14) rfl rfl ?_
    refine j_bipush (v := 20) dX5_spoken_14 (q := 16) rfl (by decide) ?_
    refine j_icmp_leN (b := 20) (by omega) (by omega) dX5_spoken_16 (t := 21) (by decide) (q := 19) rfl (fun c_16 => ?_) (fun c_16 => ?_)
    · skip
      omega
    · skip
      refine j_iconst (v := 0) dX5_spoken_19 (q := 20) rfl (by decide) ?_
      refine j_ireti dX5_spoken_20 rfl ?_
      exact ⟨rfl, hV, fun _ _ _ => rfl⟩
theorem sp_succ {g : GT} {σ : S_} {K k a v n dd : Nat} {m x : Int32} {T : VT} (ha : a < 7) (hv : v < 4) (hdd : dd ≤ 20) (HW : ∀ (σ : S_), VI K k m σ (stT (bdN (owN v a) v) T) → CT g (3 * n + 5) M_X5_workedOut [.ref 60, .int (nI (bdN (owN v a) v)), .int (kAb (nI (owN v a))), .int x, .int (nI (dd + 1))] σ (VZ K k m σ (vB (vS K k m n) K k m (bdN (owN v a) v) (abN (owN v a)) x (stT (bdN (owN v a) v) T)))) (hV : VI K k m σ T) : CT g (3 * n + 6) M_X5_spoken [.ref 60, .int (nI a), .int (nI v), .int x, .int (nI dd)] σ (VZ K k m σ (vS K k m (n + 1) v a x T)) := by
  have ho := owN_lt a ha v hv
  obtain ⟨v1, v2, v3, v4, v5, v6, v7⟩ := id hV
  refine ct_of [.ref 60, .int (nI a), .int (nI v), .int x, .int (nI dd), .null, .null] pn_X5_spoken rfl (Nat.le_of_ble_eq_true rfl) ?_
  refine j_iload_n dX5_spoken_0 (q := 1) rfl rfl ?_
  refine j_iload_n dX5_spoken_1 (q := 2) rfl rfl ?_
  refine j_callSi2E (M' := M_X5_ownerOf) lk_X5_40 ms_X5_ownerOf (by omega) (Nat.le_of_ble_eq_true rfl) dX5_spoken_2 (q := 5) rfl (ct_X5_ownerOf ha hv) ?_
  refine j_istore_7_5 dX5_spoken_5 (q := 7) rfl rfl rfl ?_
  refine j_iload dX5_spoken_7 (q := 9) rfl rfl ?_
  refine j_if_ltN (by omega) dX5_spoken_9 (t := 19) (by decide) (q := 12) rfl (fun c_9 => ?_) (fun c_9 => ?_)
  · skip
    omega
  · skip
    refine j_iload dX5_spoken_12 (q := 14) rfl rfl ?_
    refine j_bipush (v := 20) dX5_spoken_14 (q := 16) rfl (by decide) ?_
    refine j_icmp_leN (b := 20) (by omega) (by omega) dX5_spoken_16 (t := 21) (by decide) (q := 19) rfl (fun c_16 => ?_) (fun c_16 => ?_)
    · skip
      refine j_iload dX5_spoken_21 (q := 23) rfl rfl ?_
      refine j_iload_n dX5_spoken_23 (q := 24) rfl rfl ?_
      refine j_callSi2E (M' := M_X5_bodyOf) lk_X5_44 ms_X5_bodyOf (by omega) (Nat.le_of_ble_eq_true rfl) dX5_spoken_24 (q := 27) rfl (ct_X5_bodyOf ho hv) ?_
      refine j_istore_7_6 dX5_spoken_27 (q := 29) rfl rfl rfl ?_
      refine j_aload_n dX5_spoken_29 (q := 30) rfl rfl ?_
      refine j_getIV fs_X5_29 rfl rfl v1 dX5_spoken_30 (q := 33) rfl ?_
      refine j_bipush (v := 30) dX5_spoken_33 (q := 35) rfl (by decide) ?_
      refine j_icmp_geN (b := 30) (by omega) (by omega) dX5_spoken_35 (t := 59) (by decide) (q := 38) rfl (fun c_35 => ?_) (fun c_35 => ?_)
      · skip
        refine j_aload_n dX5_spoken_59 (q := 60) rfl rfl ?_
        refine j_iload dX5_spoken_60 (q := 62) rfl rfl ?_
        refine j_iload dX5_spoken_62 (q := 64) rfl rfl ?_
        refine j_callSi1E (M' := M_X7_kindAbove) lk_X5_47 ms_X7_kindAbove (by omega) (Nat.le_of_ble_eq_true rfl) dX5_spoken_64 (q := 67) rfl (ct_X7_kindAbove) ?_
        refine j_iload_n dX5_spoken_67 (q := 68) rfl rfl ?_
        refine j_iload dX5_spoken_68 (q := 70) rfl rfl ?_
        refine j_iconst (v := 1) dX5_spoken_70 (q := 71) rfl (by decide) ?_
        refine j_iaddN (b := 1) dX5_spoken_71 (q := 72) rfl ?_
        refine j_callVi4 (M' := M_X5_workedOut) lk_X5_51 mv_X5_workedOut ob_60 (by omega) (Nat.le_of_ble_eq_true rfl) dX5_spoken_72 (q := 75) rfl (HW _ (by first | exact VI_st0 hV c_35 | exact VI_st hV (by omega))) ?_
        intro x1 τ1 hz
        obtain ⟨z1, hV1, hF1⟩ := hz
        cases z1
        refine j_ireti dX5_spoken_75 rfl ?_
        exact ⟨rfl, hV1, hF1⟩
      · skip
        refine j_aload_n dX5_spoken_38 (q := 39) rfl rfl ?_
        refine j_getR (r := 61) fs_X5_11 rfl rfl rfl dX5_spoken_39 (q := 42) rfl ?_
        refine j_aload_n dX5_spoken_42 (q := 43) rfl rfl ?_
        refine j_getIV fs_X5_29 rfl rfl v1 dX5_spoken_43 (q := 46) rfl ?_
        refine j_iload dX5_spoken_46 (q := 48) rfl rfl ?_
        refine j_iastN rfl (by omega) dX5_spoken_48 (q := 49) rfl ?_
        refine j_aload_n dX5_spoken_49 (q := 50) rfl rfl ?_
        refine j_dup dX5_spoken_50 (q := 51) rfl rfl ?_
        refine j_getIV fs_X5_29 rfl rfl ((up_nc (by decide)).trans v1) dX5_spoken_51 (q := 54) rfl ?_
        refine j_iconst (v := 1) dX5_spoken_54 (q := 55) rfl (by decide) ?_
        refine j_iaddN (b := 1) dX5_spoken_55 (q := 56) rfl ?_
        refine j_putI fs_X5_29 rfl rfl fp_5_1 dX5_spoken_56 (q := 59) rfl ?_
        refine j_aload_n dX5_spoken_59 (q := 60) rfl rfl ?_
        refine j_iload dX5_spoken_60 (q := 62) rfl rfl ?_
        refine j_iload dX5_spoken_62 (q := 64) rfl rfl ?_
        refine j_callSi1E (M' := M_X7_kindAbove) lk_X5_47 ms_X7_kindAbove (by omega) (Nat.le_of_ble_eq_true rfl) dX5_spoken_64 (q := 67) rfl (ct_X7_kindAbove) ?_
        refine j_iload_n dX5_spoken_67 (q := 68) rfl rfl ?_
        refine j_iload dX5_spoken_68 (q := 70) rfl rfl ?_
        refine j_iconst (v := 1) dX5_spoken_70 (q := 71) rfl (by decide) ?_
        refine j_iaddN (b := 1) dX5_spoken_71 (q := 72) rfl ?_
        refine j_callVi4 (M' := M_X5_workedOut) lk_X5_51 mv_X5_workedOut ob_60 (by omega) (Nat.le_of_ble_eq_true rfl) dX5_spoken_72 (q := 75) rfl (HW _ (by first | exact VI_st0 hV c_35 | exact VI_st hV (by omega))) ?_
        intro x1 τ1 hz
        obtain ⟨z1, hV1, hF1⟩ := hz
        cases z1
        refine j_ireti dX5_spoken_75 rfl ?_
        exact ⟨rfl, hV1, fun y y1 y2 => (hF1 y y1 y2).trans ((up_row y1).trans (up_row y2))⟩
    · skip
      omega
theorem sp_all {g : GT} {K k : Nat} {m : Int32} (hK : K < 7) : ∀ (n dd : Nat), dd + n = 21 → ∀ (a v : Nat) (x : Int32) (T : VT) (σ : S_), a < 7 → v < 4 → VI K k m σ T → CT g (3 * n + 3) M_X5_spoken [.ref 60, .int (nI a), .int (nI v), .int x, .int (nI dd)] σ (VZ K k m σ (vS K k m n v a x T)) := by
  intro n
  induction n with
  | zero =>
    intro dd h a v x T σ ha hv hV
    exact sp_zero ha hv (by omega) hV
  | succ n ih =>
    intro dd h a v x T σ ha hv hV
    exact sp_succ ha hv (by omega) (fun σ' h' => wo_any ha hv hK (ih (dd + 1) (by omega)) h') hV
