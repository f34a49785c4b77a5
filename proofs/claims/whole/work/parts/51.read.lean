/-- the class's Reader (54..58) is where the parser is -/
def RI (B : Nat → Nat) (L u : Nat) (σ : S_) (T : PT) : Prop := σ 54 3 = nI T.1 ∧ σ 54 2 = nI L ∧ (∀ j, j < L → σ 55 j = nI (B j)) ∧ σ 56 3 = nI T.2.1 ∧ (∀ j, j < T.2.1 → σ 57 j = sgP T j ∧ σ 58 j = vlP T j) ∧ σ 54 4 = nI (u + 1)
def FR (σ τ : S_) : Prop := ∀ x, x ≠ 54 → x ≠ 56 → x ≠ 57 → x ≠ 58 → τ x = σ x
theorem FR.rf {σ : S_} : FR σ σ := fun _ _ _ _ _ => rfl
theorem FR.tr {σ τ υ : S_} (h : FR σ τ) (h' : FR τ υ) : FR σ υ := fun x a b c d => (h' x a b c d).trans (h x a b c d)
def PZ (B : Nat → Nat) (L u : Nat) (σ : S_) (q : Bool × PT) : Value → S_ → Prop := fun r τ => r = .int (bI (q.1 = true)) ∧ RI B L u τ q.2 ∧ FR σ τ
theorem RI_nx {B : Nat → Nat} {L u : Nat} {σ : S_} {T : PT} (h : RI B L u σ T) : RI B L u (up σ 54 3 (nI (T.1 + 1))) (pNx T) := by
  obtain ⟨h1, h2, h3, h4, h5, h6⟩ := h
  exact ⟨up_at, (up_nk (by decide)).trans h2, fun j hj => (up_nc (by decide)).trans (h3 j hj), (up_nc (by decide)).trans h4, fun j hj => ⟨(up_nc (by decide)).trans (h5 j hj).1, (up_nc (by decide)).trans (h5 j hj).2⟩, (up_nk (by decide)).trans h6⟩
theorem FR_nx {σ : S_} {v : Int32} : FR σ (up σ 54 3 v) := fun _ a _ _ _ => up_row a
theorem RI_add {B : Nat → Nat} {L u : Nat} {σ : S_} {T : PT} {w v s x : Int32} (h : RI B L u σ T) (hs : sgM w v = s) (hx : vlM w v = x) : RI B L u (up (up (up σ 57 T.2.1 s) 58 T.2.1 x) 56 3 (nI T.2.1 + 1)) (pAdd w v T) := by
  obtain ⟨h1, h2, h3, h4, h5, h6⟩ := h
  obtain ⟨e1, e2⟩ := pAdd_sg (w := w) (v := v) (T := T)
  refine ⟨(up_nc (by decide)).trans ((up_nc (by decide)).trans ((up_nc (by decide)).trans h1)), (up_nc (by decide)).trans ((up_nc (by decide)).trans ((up_nc (by decide)).trans h2)), fun j hj => (up_nc (by decide)).trans ((up_nc (by decide)).trans ((up_nc (by decide)).trans (h3 j hj))), up_at.trans (by rw [show (1 : Int32) = nI 1 from rfl, nI_add]; rfl), fun j hj => ?_, (up_nc (by decide)).trans ((up_nc (by decide)).trans ((up_nc (by decide)).trans h6))⟩
  have hj : j < T.2.1 + 1 := hj
  by_cases q : j = T.2.1
  · rw [q, e1, e2, hs, hx]
    exact ⟨(up_nc (by decide)).trans ((up_nc (by decide)).trans up_at), (up_nc (by decide)).trans up_at⟩
  · obtain ⟨k1, k2⟩ := pAdd_keep (w := w) (v := v) (T := T) j (by omega)
    unfold sgP vlP
    rw [k1, k2]
    exact ⟨(up_nc (by decide)).trans ((up_nc (by decide)).trans ((up_nk q).trans (h5 j (by omega)).1)), (up_nc (by decide)).trans ((up_nk q).trans ((up_nc (by decide)).trans (h5 j (by omega)).2))⟩
theorem FR_add {σ : S_} {n : Nat} {s x y : Int32} : FR σ (up (up (up σ 57 n s) 58 n x) 56 3 y) := fun _ _ b c d => (up_row b).trans ((up_row d).trans (up_row c))
theorem b8_inj {n k : Nat} (hn : n < 256) (hk : k < 256) (h : nI n = nI k) : n = k := by
  have := congrArg Int32.toNatClampNeg h
  rwa [nI_clamp (by omega), nI_clamp (by omega)] at this
def rkI (n : Nat) : Int32 := if rkB n < 5 then nI (rkB n) else -1
theorem rkI_eq {n r : Nat} (hr : r < 5) : rkI n = nI r ↔ rkB n = r := by
  unfold rkI
  by_cases c : rkB n < 5
  · rw [if_pos c]
    exact ⟨fun h => b8_inj (by omega) (by omega) h, fun h => by rw [h]⟩
  · rw [if_neg c]
    have h1 : ∀ r, r < 5 → ¬ (-1 : Int32) = nI r := by decide
    exact ⟨fun h => absurd h (h1 r hr), fun h => absurd (by omega : rkB n < 5) c⟩
theorem ixR_lt {u n : Nat} : ixR u n < 0 ↔ ¬ ixQ u n < 3 := by
  unfold ixR
  by_cases c : ixQ u n < 3
  · rw [if_pos c]
    have h1 : ∀ r, r < 3 → ¬ nI r < 0 := by decide
    exact ⟨fun h => absurd h (h1 _ c), fun h => absurd c h⟩
  · rw [if_neg c]
    exact ⟨fun _ => c, fun _ => by decide⟩
theorem names_at {g : GT} {σ : S_} {u : Nat} (hu : u < 2) (h : σ 54 4 = nI (u + 1)) : vV g σ 54 4 ((fT 1).getD 4 0) = tr g (.ref (101 + u)) := by
  show Value.ref (gad g (100 + (σ 54 4).toNatClampNeg)) = Value.ref (gad g (101 + u))
  rw [h, nI_clamp (by omega), show 100 + (u + 1) = 101 + u by omega]
theorem ct_X1_isDigit {g : GT} {σ : S_} {n : Nat} (hn : n < 256) : CT g 0 M_X1_isDigit [.int (nI n)] σ (EQ (.int (bI (48 ≤ n ∧ n ≤ 57))) σ) := by
  refine ct_of [.int (nI n)] pn_X1_isDigit rfl (Nat.le_of_ble_eq_true rfl) ?_
  refine j_iload_n dX1_isDigit_0 (q := 1) rfl rfl ?_
  refine j_bipush (v := 48) dX1_isDigit_1 (q := 3) rfl (by decide) ?_
  refine j_icmp_ltN (b := 48) (by omega) (by omega) dX1_isDigit_3 (t := 16) (by decide) (q := 6) rfl (fun c_3 => ?_) (fun c_3 => ?_)
  · skip
    refine j_iconst (v := 0) dX1_isDigit_16 (q := 17) rfl (by decide) ?_
    refine j_iretz dX1_isDigit_17 rfl (by decide) ?_
    exact ⟨congrArg Value.int (by first | exact (bI_t (by omega)).symm | exact (bI_f (by omega)).symm), rfl⟩
  · skip
    refine j_iload_n dX1_isDigit_6 (q := 7) rfl rfl ?_
    refine j_bipush (v := 57) dX1_isDigit_7 (q := 9) rfl (by decide) ?_
    refine j_icmp_gtN (b := 57) (by omega) (by omega) dX1_isDigit_9 (t := 16) (by decide) (q := 12) rfl (fun c_9 => ?_) (fun c_9 => ?_)
    · skip
      refine j_iconst (v := 0) dX1_isDigit_16 (q := 17) rfl (by decide) ?_
      refine j_iretz dX1_isDigit_17 rfl (by decide) ?_
      exact ⟨congrArg Value.int (by first | exact (bI_t (by omega)).symm | exact (bI_f (by omega)).symm), rfl⟩
    · skip
      refine j_iconst (v := 1) dX1_isDigit_12 (q := 13) rfl (by decide) ?_
      refine j_goto (q := 17) dX1_isDigit_13 (by decide) ?_
      refine j_iretz dX1_isDigit_17 rfl (by decide) ?_
      exact ⟨congrArg Value.int (by first | exact (bI_t (by omega)).symm | exact (bI_f (by omega)).symm), rfl⟩
theorem ct_X1_rankOf {g : GT} {σ : S_} {n : Nat} (hn : n < 256) : CT g 0 M_X1_rankOf [.int (nI n)] σ (EQ (.int (rkI n)) σ) := by
  refine ct_of [.int (nI n)] pn_X1_rankOf rfl (Nat.le_of_ble_eq_true rfl) ?_
  refine j_iload_n dX1_rankOf_0 (q := 1) rfl rfl ?_
  refine j_lsw_37_38_42_43_45_47_60_61_62_124 dX1_rankOf_1 (td := 102) (t0 := 100) (t1 := 94) (t2 := 100) (t3 := 98) (t4 := 98) (t5 := 100) (t6 := 96) (t7 := 96) (t8 := 96) (t9 := 92) (by decide) (by decide) (by decide) (by decide) (by decide) (by decide) (by decide) (by decide) (by decide) (by decide) (by decide) (fun e_1 => ?_) (fun e_1 => ?_) (fun e_1 => ?_) (fun e_1 => ?_) (fun e_1 => ?_) (fun e_1 => ?_) (fun e_1 => ?_) (fun e_1 => ?_) (fun e_1 => ?_) (fun e_1 => ?_) (fun e_1_0 e_1_1 e_1_2 e_1_3 e_1_4 e_1_5 e_1_6 e_1_7 e_1_8 e_1_9 => ?_)
  · skip
    refine j_iconst (v := 4) dX1_rankOf_100 (q := 101) rfl (by decide) ?_
    refine j_ireti dX1_rankOf_101 rfl ?_
    obtain rfl := b8_inj hn (show 37 < 256 by decide) e_1
    exact ⟨rfl, rfl⟩
  · skip
    refine j_iconst (v := 1) dX1_rankOf_94 (q := 95) rfl (by decide) ?_
    refine j_ireti dX1_rankOf_95 rfl ?_
    obtain rfl := b8_inj hn (show 38 < 256 by decide) e_1
    exact ⟨rfl, rfl⟩
  · skip
    refine j_iconst (v := 4) dX1_rankOf_100 (q := 101) rfl (by decide) ?_
    refine j_ireti dX1_rankOf_101 rfl ?_
    obtain rfl := b8_inj hn (show 42 < 256 by decide) e_1
    exact ⟨rfl, rfl⟩
  · skip
    refine j_iconst (v := 3) dX1_rankOf_98 (q := 99) rfl (by decide) ?_
    refine j_ireti dX1_rankOf_99 rfl ?_
    obtain rfl := b8_inj hn (show 43 < 256 by decide) e_1
    exact ⟨rfl, rfl⟩
  · skip
    refine j_iconst (v := 3) dX1_rankOf_98 (q := 99) rfl (by decide) ?_
    refine j_ireti dX1_rankOf_99 rfl ?_
    obtain rfl := b8_inj hn (show 45 < 256 by decide) e_1
    exact ⟨rfl, rfl⟩
  · skip
    refine j_iconst (v := 4) dX1_rankOf_100 (q := 101) rfl (by decide) ?_
    refine j_ireti dX1_rankOf_101 rfl ?_
    obtain rfl := b8_inj hn (show 47 < 256 by decide) e_1
    exact ⟨rfl, rfl⟩
  · skip
    refine j_iconst (v := 2) dX1_rankOf_96 (q := 97) rfl (by decide) ?_
    refine j_ireti dX1_rankOf_97 rfl ?_
    obtain rfl := b8_inj hn (show 60 < 256 by decide) e_1
    exact ⟨rfl, rfl⟩
  · skip
    refine j_iconst (v := 2) dX1_rankOf_96 (q := 97) rfl (by decide) ?_
    refine j_ireti dX1_rankOf_97 rfl ?_
    obtain rfl := b8_inj hn (show 61 < 256 by decide) e_1
    exact ⟨rfl, rfl⟩
  · skip
    refine j_iconst (v := 2) dX1_rankOf_96 (q := 97) rfl (by decide) ?_
    refine j_ireti dX1_rankOf_97 rfl ?_
    obtain rfl := b8_inj hn (show 62 < 256 by decide) e_1
    exact ⟨rfl, rfl⟩
  · skip
    refine j_iconst (v := 0) dX1_rankOf_92 (q := 93) rfl (by decide) ?_
    refine j_ireti dX1_rankOf_93 rfl ?_
    obtain rfl := b8_inj hn (show 124 < 256 by decide) e_1
    exact ⟨rfl, rfl⟩
  · skip
    refine j_iconst (v := (-1)) dX1_rankOf_102 (q := 103) rfl (by decide) ?_
    refine j_ireti dX1_rankOf_103 rfl ?_
    have f0 : n ≠ 37 := fun h => e_1_0 (by rw [h]; rfl)
    have f1 : n ≠ 38 := fun h => e_1_1 (by rw [h]; rfl)
    have f2 : n ≠ 42 := fun h => e_1_2 (by rw [h]; rfl)
    have f3 : n ≠ 43 := fun h => e_1_3 (by rw [h]; rfl)
    have f4 : n ≠ 45 := fun h => e_1_4 (by rw [h]; rfl)
    have f5 : n ≠ 47 := fun h => e_1_5 (by rw [h]; rfl)
    have f6 : n ≠ 60 := fun h => e_1_6 (by rw [h]; rfl)
    have f7 : n ≠ 61 := fun h => e_1_7 (by rw [h]; rfl)
    have f8 : n ≠ 62 := fun h => e_1_8 (by rw [h]; rfl)
    have f9 : n ≠ 124 := fun h => e_1_9 (by rw [h]; rfl)
    have h9 : rkB n = 9 := by
      unfold rkB
      rw [if_neg (by omega), if_neg (by omega), if_neg (by omega), if_neg (by omega), if_neg (by omega)]
    exact ⟨congrArg Value.int (by unfold rkI; rw [h9]; rfl), rfl⟩
theorem rn_loop {g : GT} {B : Nat → Nat} {L u : Nat} (hL : L ≤ 60) (hB : ∀ j, j < L → B j < 256) {σ0 : S_} {T : Nat × (Nat → Int32) × (Nat → Int32)} (hn : T.1 < 60) : ∀ (k i a : Nat) (v : Int32) (σ : S_), i + k = 4 → a ≤ L → RI B L u σ (a, T) → FR σ0 σ → J g 1 M_X1_readNumber (fun r τ => r = .null ∧ RI B L u τ (pAdd 0 (pN B L k a v).2 ((pN B L k a v).1, T)) ∧ FR σ0 τ) 4 [.ref 54, .int v, .int (nI i)] [] σ := by
  intro k
  induction k with
  | zero =>
    intro i a v σ hik ha hR hF
    obtain ⟨h1, h2, h3, h4, h5, h6⟩ := id hR
    refine j_iload_n dX1_readNumber_4 (q := 5) rfl rfl ?_
    refine j_iconst (v := 4) dX1_readNumber_5 (q := 6) rfl (by decide) ?_
    refine j_icmp_geN (b := 4) (by omega) (by omega) dX1_readNumber_6 (t := 69) (by decide) (q := 9) rfl (fun c_6 => ?_) (fun c_6 => ?_)
    · skip
      refine j_aload_n dX1_readNumber_69 (q := 70) rfl rfl ?_
      refine j_getR (r := 56) fs_X1_12 rfl rfl rfl dX1_readNumber_70 (q := 73) rfl ?_
      refine j_iconst (v := 1) dX1_readNumber_73 (q := 74) rfl (by decide) ?_
      refine j_iload_n dX1_readNumber_74 (q := 75) rfl rfl ?_
      refine j_callVv2E (M' := M_X3_add) lk_X1_59 mv_X3_add ob_56 (by decide) (Nat.le_of_ble_eq_true rfl) dX1_readNumber_75 (q := 78) rfl (ct_X3_add (t := 56) (n := T.1) (.inr (.inr (.inr (.inr rfl)))) hn h4) ?_
      refine j_vret dX1_readNumber_78 rfl ?_
      exact ⟨rfl, RI_add (T := (a, T)) hR rfl rfl, hF.tr FR_add⟩
    · skip
      omega
  | succ k ih =>
    intro i a v σ hik ha hR hF
    obtain ⟨h1, h2, h3, h4, h5, h6⟩ := id hR
    refine j_iload_n dX1_readNumber_4 (q := 5) rfl rfl ?_
    refine j_iconst (v := 4) dX1_readNumber_5 (q := 6) rfl (by decide) ?_
    refine j_icmp_geN (b := 4) (by omega) (by omega) dX1_readNumber_6 (t := 69) (by decide) (q := 9) rfl (fun c_6 => ?_) (fun c_6 => ?_)
    · skip
      omega
    · skip
      refine j_aload_n dX1_readNumber_9 (q := 10) rfl rfl ?_
      refine j_getIV fs_X1_41 rfl rfl h1 dX1_readNumber_10 (q := 13) rfl ?_
      refine j_aload_n dX1_readNumber_13 (q := 14) rfl rfl ?_
      refine j_getIV fs_X1_37 rfl rfl h2 dX1_readNumber_14 (q := 17) rfl ?_
      refine j_icmp_geN (by omega) (by omega) dX1_readNumber_17 (t := 69) (by decide) (q := 20) rfl (fun c_17 => ?_) (fun c_17 => ?_)
      · skip
        refine j_aload_n dX1_readNumber_69 (q := 70) rfl rfl ?_
        refine j_getR (r := 56) fs_X1_12 rfl rfl rfl dX1_readNumber_70 (q := 73) rfl ?_
        refine j_iconst (v := 1) dX1_readNumber_73 (q := 74) rfl (by decide) ?_
        refine j_iload_n dX1_readNumber_74 (q := 75) rfl rfl ?_
        refine j_callVv2E (M' := M_X3_add) lk_X1_59 mv_X3_add ob_56 (by decide) (Nat.le_of_ble_eq_true rfl) dX1_readNumber_75 (q := 78) rfl (ct_X3_add (t := 56) (n := T.1) (.inr (.inr (.inr (.inr rfl)))) hn h4) ?_
        refine j_vret dX1_readNumber_78 rfl ?_
        rw [show pN B L (k + 1) a v = (a, v) from if_neg (by omega)]
        exact ⟨rfl, RI_add (T := (a, T)) hR rfl rfl, hF.tr FR_add⟩
      · skip
        refine j_aload_n dX1_readNumber_20 (q := 21) rfl rfl ?_
        refine j_getR (r := 55) fs_X1_18 rfl rfl rfl dX1_readNumber_21 (q := 24) rfl ?_
        refine j_aload_n dX1_readNumber_24 (q := 25) rfl rfl ?_
        refine j_getIV fs_X1_41 rfl rfl h1 dX1_readNumber_25 (q := 28) rfl ?_
        refine j_ialdV rfl (by omega) (h3 a (by omega)) dX1_readNumber_28 (q := 29) rfl ?_
        refine j_callSi1E (M' := M_X1_isDigit) lk_X1_63 ms_X1_isDigit (by decide) (Nat.le_of_ble_eq_true rfl) dX1_readNumber_29 (q := 32) rfl (ct_X1_isDigit (hB _ (by omega))) ?_
        refine j_ifeqB dX1_readNumber_32 (t := 69) (by decide) (q := 35) rfl (fun c_32 => ?_) (fun c_32 => ?_)
        · skip
          refine j_bipush (v := 10) dX1_readNumber_35 (q := 37) rfl (by decide) ?_
          refine j_iload_n dX1_readNumber_37 (q := 38) rfl rfl ?_
          refine j_imul dX1_readNumber_38 (q := 39) rfl ?_
          refine j_aload_n dX1_readNumber_39 (q := 40) rfl rfl ?_
          refine j_getR (r := 55) fs_X1_18 rfl rfl rfl dX1_readNumber_40 (q := 43) rfl ?_
          refine j_aload_n dX1_readNumber_43 (q := 44) rfl rfl ?_
          refine j_getIV fs_X1_41 rfl rfl h1 dX1_readNumber_44 (q := 47) rfl ?_
          refine j_ialdV rfl (by omega) (h3 a (by omega)) dX1_readNumber_47 (q := 48) rfl ?_
          refine j_iadd dX1_readNumber_48 (q := 49) rfl ?_
          refine j_bipush (v := 48) dX1_readNumber_49 (q := 51) rfl (by decide) ?_
          refine j_isub dX1_readNumber_51 (q := 52) rfl ?_
          refine j_istore_n_3_1 dX1_readNumber_52 (q := 53) rfl rfl rfl ?_
          refine j_aload_n dX1_readNumber_53 (q := 54) rfl rfl ?_
          refine j_dup dX1_readNumber_54 (q := 55) rfl rfl ?_
          refine j_getIV fs_X1_41 rfl rfl h1 dX1_readNumber_55 (q := 58) rfl ?_
          refine j_iconst (v := 1) dX1_readNumber_58 (q := 59) rfl (by decide) ?_
          refine j_iaddN (b := 1) dX1_readNumber_59 (q := 60) rfl ?_
          refine j_putI fs_X1_41 rfl rfl fp_1_3 dX1_readNumber_60 (q := 63) rfl ?_
          refine j_iincN_3_2 dX1_readNumber_63 (q := 66) rfl rfl rfl ?_
          refine j_goto (q := 4) dX1_readNumber_66 (by decide) ?_
          rw [show pN B L (k + 1) a v = pN B L k (a + 1) (10 * v + nI (B a) - 48) from if_pos ⟨by omega, c_32⟩]
          exact ih (i + 1) (a + 1) _ _ (by omega) (by omega) (RI_nx hR) (hF.tr FR_nx)
        · skip
          refine j_aload_n dX1_readNumber_69 (q := 70) rfl rfl ?_
          refine j_getR (r := 56) fs_X1_12 rfl rfl rfl dX1_readNumber_70 (q := 73) rfl ?_
          refine j_iconst (v := 1) dX1_readNumber_73 (q := 74) rfl (by decide) ?_
          refine j_iload_n dX1_readNumber_74 (q := 75) rfl rfl ?_
          refine j_callVv2E (M' := M_X3_add) lk_X1_59 mv_X3_add ob_56 (by decide) (Nat.le_of_ble_eq_true rfl) dX1_readNumber_75 (q := 78) rfl (ct_X3_add (t := 56) (n := T.1) (.inr (.inr (.inr (.inr rfl)))) hn h4) ?_
          refine j_vret dX1_readNumber_78 rfl ?_
          rw [show pN B L (k + 1) a v = (a, v) from if_neg (by omega)]
          exact ⟨rfl, RI_add (T := (a, T)) hR rfl rfl, hF.tr FR_add⟩
theorem ct_X1_readNumber {g : GT} {σ : S_} {B : Nat → Nat} {L u : Nat} (hL : L ≤ 60) (hB : ∀ j, j < L → B j < 256) {T : PT} (ha : T.1 ≤ L) (hn : T.2.1 < 60) (hR : RI B L u σ T) : CT g 1 M_X1_readNumber [.ref 54] σ (fun r τ => r = .null ∧ RI B L u τ (pAdd 0 (pN B L 4 T.1 0).2 ((pN B L 4 T.1 0).1, T.2)) ∧ FR σ τ) := by
  refine ct_of [.ref 54, .null, .null] pn_X1_readNumber rfl (Nat.le_of_ble_eq_true rfl) ?_
  refine j_iconst (v := 0) dX1_readNumber_0 (q := 1) rfl (by decide) ?_
  refine j_istore_n_3_1 dX1_readNumber_1 (q := 2) rfl rfl rfl ?_
  refine j_iconst (v := 0) dX1_readNumber_2 (q := 3) rfl (by decide) ?_
  refine j_istore_n_3_2 dX1_readNumber_3 (q := 4) rfl rfl rfl ?_
  exact rn_loop hL hB hn 4 0 T.1 0 σ (by decide) ha hR FR.rf
theorem ct_X1_readNot {g : GT} {σ : S_} {B : Nat → Nat} {L u : Nat} (hL : L ≤ 60) (hB : ∀ j, j < L → B j < 256) {e : Nat} (HO : ∀ (ρ : Nat), ρ + e = 5 → ∀ (T : PT) (σ : S_), T.1 ≤ L → T.2.1 ≤ T.1 → RI B L u σ T → CT g (8 * e + 6) M_X1_readOperand [.ref 54, .int (nI ρ)] σ (PZ B L u σ (pOn B L u e T))) {ρ : Nat} (he : ρ + e = 5) (hu : u < 2) {T : PT} (ha : T.1 ≤ L) (hn : T.2.1 ≤ T.1) (hR : RI B L u σ T) (hl : T.1 < L) : CT g (8 * e + 7) M_X1_readNot [.ref 54, .int (nI ρ)] σ (PZ B L u σ (if (pOn B L u e (pNx T)).1 = true then (true, pAdd 2 0 (pOn B L u e (pNx T)).2) else (false, (pOn B L u e (pNx T)).2))) := by
  obtain ⟨h1, h2, h3, h4, h5, h6⟩ := id hR
  have hq := PQ_On (B := B) (L := L) hu e (pNx T) hl
  obtain ⟨q1, q2, q3, q4, q5⟩ := hq.1
  replace q1 : T.1 + 1 ≤ _ := q1
  replace q3 : T.2.1 ≤ _ := q3
  replace q4 : _ + (T.1 + 1) ≤ _ + T.2.1 := q4
  refine ct_of [.ref 54, .int (nI ρ)] pn_X1_readNot rfl (Nat.le_of_ble_eq_true rfl) ?_
  refine j_aload_n dX1_readNot_0 (q := 1) rfl rfl ?_
  refine j_dup dX1_readNot_1 (q := 2) rfl rfl ?_
  refine j_getIV fs_X1_41 rfl rfl h1 dX1_readNot_2 (q := 5) rfl ?_
  refine j_iconst (v := 1) dX1_readNot_5 (q := 6) rfl (by decide) ?_
  refine j_iaddN (b := 1) dX1_readNot_6 (q := 7) rfl ?_
  refine j_putI fs_X1_41 rfl rfl fp_1_3 dX1_readNot_7 (q := 10) rfl ?_
  refine j_aload_n dX1_readNot_10 (q := 11) rfl rfl ?_
  refine j_iload_n dX1_readNot_11 (q := 12) rfl rfl ?_
  refine j_callVi1 (M' := M_X1_readOperand) lk_X1_51 mv_X1_readOperand ob_54 (by omega) (Nat.le_of_ble_eq_true rfl) dX1_readNot_12 (q := 15) rfl (HO ρ he (pNx T) _ hl (by show T.2.1 ≤ T.1 + 1; omega) (RI_nx hR)) ?_
  intro x1 τ1 hz
  obtain ⟨z1, hR1, hF1⟩ := hz
  cases z1
  refine j_ifneB dX1_readNot_15 (t := 20) (by decide) (q := 18) rfl (fun c_15 => ?_) (fun c_15 => ?_)
  · skip
    refine j_aload_n dX1_readNot_20 (q := 21) rfl rfl ?_
    refine j_getR (r := 56) fs_X1_12 rfl rfl rfl dX1_readNot_21 (q := 24) rfl ?_
    refine j_bipush (v := 33) dX1_readNot_24 (q := 26) rfl (by decide) ?_
    refine j_iconst (v := 0) dX1_readNot_26 (q := 27) rfl (by decide) ?_
    refine j_callVv2E (M' := M_X3_add) lk_X1_59 mv_X3_add ob_56 (by omega) (Nat.le_of_ble_eq_true rfl) dX1_readNot_27 (q := 30) rfl (ct_X3_add (t := 56) (n := (pOn B L u e (pNx T)).2.2.1) (.inr (.inr (.inr (.inr rfl)))) (by omega) hR1.2.2.2.1) ?_
    refine j_iconst (v := 1) dX1_readNot_30 (q := 31) rfl (by decide) ?_
    refine j_iretz dX1_readNot_31 rfl (by decide) ?_
    rw [if_pos c_15]
    exact ⟨rfl, RI_add hR1 rfl rfl, (FR_nx.tr hF1).tr FR_add⟩
  · skip
    refine j_iconst (v := 0) dX1_readNot_18 (q := 19) rfl (by decide) ?_
    refine j_iretz dX1_readNot_19 rfl (by decide) ?_
    rw [if_neg c_15]
    exact ⟨rfl, hR1, FR_nx.tr hF1⟩
theorem ct_X1_readBracket {g : GT} {σ : S_} {B : Nat → Nat} {L u : Nat} (hL : L ≤ 60) (hB : ∀ j, j < L → B j < 256) {e : Nat} (HR : ∀ (r ρ : Nat), r + 5 = 5 → ρ + e = 5 → ∀ (T : PT) (σ : S_), T.1 ≤ L → T.2.1 ≤ T.1 → RI B L u σ T → CT g (8 * e + 7 + 5) M_X1_readRank [.ref 54, .int (nI r), .int (nI ρ)] σ (PZ B L u σ (pRk B L (pOn B L u e) 5 T))) {ρ : Nat} (he : ρ + e = 5) (hu : u < 2) {T : PT} (ha : T.1 ≤ L) (hn : T.2.1 ≤ T.1) (hR : RI B L u σ T) (hl : T.1 < L) : CT g (8 * e + 13) M_X1_readBracket [.ref 54, .int (nI ρ)] σ (PZ B L u σ (if (pRk B L (pOn B L u e) 5 (pNx T)).1 = true then (if (pRk B L (pOn B L u e) 5 (pNx T)).2.1 < L ∧ B (pRk B L (pOn B L u e) 5 (pNx T)).2.1 = 41 then (true, pNx (pRk B L (pOn B L u e) 5 (pNx T)).2) else (false, (pRk B L (pOn B L u e) 5 (pNx T)).2)) else (false, (pRk B L (pOn B L u e) 5 (pNx T)).2))) := by
  obtain ⟨h1, h2, h3, h4, h5, h6⟩ := id hR
  generalize hX : (pRk B L (pOn B L u e) 5 (pNx T)) = X
  refine ct_of [.ref 54, .int (nI ρ)] pn_X1_readBracket rfl (Nat.le_of_ble_eq_true rfl) ?_
  refine j_aload_n dX1_readBracket_0 (q := 1) rfl rfl ?_
  refine j_dup dX1_readBracket_1 (q := 2) rfl rfl ?_
  refine j_getIV fs_X1_41 rfl rfl h1 dX1_readBracket_2 (q := 5) rfl ?_
  refine j_iconst (v := 1) dX1_readBracket_5 (q := 6) rfl (by decide) ?_
  refine j_iaddN (b := 1) dX1_readBracket_6 (q := 7) rfl ?_
  refine j_putI fs_X1_41 rfl rfl fp_1_3 dX1_readBracket_7 (q := 10) rfl ?_
  refine j_aload_n dX1_readBracket_10 (q := 11) rfl rfl ?_
  refine j_iconst (v := 0) dX1_readBracket_11 (q := 12) rfl (by decide) ?_
  refine j_iload_n dX1_readBracket_12 (q := 13) rfl rfl ?_
  refine j_callVi2 (M' := M_X1_readRank) lk_X1_47 mv_X1_readRank ob_54 (by omega) (Nat.le_of_ble_eq_true rfl) dX1_readBracket_13 (q := 16) rfl (HR 0 ρ rfl he (pNx T) _ hl (by show T.2.1 ≤ T.1 + 1; omega) (RI_nx hR)) ?_
  intro x1 τ1 hz
  rw [hX] at hz
  obtain ⟨z1, hR1, hF1⟩ := hz
  cases z1
  have hb41 := hB X.2.1
  have hqx := (PQ_Rk (B := B) (PQ_On (B := B) hu e) 5 (pNx T) hl).1
  rw [hX] at hqx
  have hqx2 := hqx.2.1
  refine j_ifeqB dX1_readBracket_16 (t := 44) (by decide) (q := 19) rfl (fun c_16 => ?_) (fun c_16 => ?_)
  · skip
    refine j_aload_n dX1_readBracket_19 (q := 20) rfl rfl ?_
    refine j_getIV fs_X1_41 rfl rfl hR1.1 dX1_readBracket_20 (q := 23) rfl ?_
    refine j_aload_n dX1_readBracket_23 (q := 24) rfl rfl ?_
    refine j_getIV fs_X1_37 rfl rfl hR1.2.1 dX1_readBracket_24 (q := 27) rfl ?_
    refine j_icmp_geN (by omega) (by omega) dX1_readBracket_27 (t := 44) (by decide) (q := 30) rfl (fun c_27 => ?_) (fun c_27 => ?_)
    · skip
      refine j_iconst (v := 0) dX1_readBracket_44 (q := 45) rfl (by decide) ?_
      refine j_iretz dX1_readBracket_45 rfl (by decide) ?_
      rw [if_pos c_16, if_neg (by omega)]
      exact ⟨rfl, hR1, FR_nx.tr hF1⟩
    · skip
      refine j_aload_n dX1_readBracket_30 (q := 31) rfl rfl ?_
      refine j_getR (r := 55) fs_X1_18 rfl rfl rfl dX1_readBracket_31 (q := 34) rfl ?_
      refine j_aload_n dX1_readBracket_34 (q := 35) rfl rfl ?_
      refine j_getIV fs_X1_41 rfl rfl hR1.1 dX1_readBracket_35 (q := 38) rfl ?_
      refine j_ialdV rfl (by omega) (hR1.2.2.1 _ (by omega)) dX1_readBracket_38 (q := 39) rfl ?_
      refine j_bipush (v := 41) dX1_readBracket_39 (q := 41) rfl (by decide) ?_
      refine j_icmp_eqN (b := 41) (by omega) (by omega) dX1_readBracket_41 (t := 46) (by decide) (q := 44) rfl (fun c_41 => ?_) (fun c_41 => ?_)
      · skip
        refine j_aload_n dX1_readBracket_46 (q := 47) rfl rfl ?_
        refine j_dup dX1_readBracket_47 (q := 48) rfl rfl ?_
        refine j_getIV fs_X1_41 rfl rfl hR1.1 dX1_readBracket_48 (q := 51) rfl ?_
        refine j_iconst (v := 1) dX1_readBracket_51 (q := 52) rfl (by decide) ?_
        refine j_iaddN (b := 1) dX1_readBracket_52 (q := 53) rfl ?_
        refine j_putI fs_X1_41 rfl rfl fp_1_3 dX1_readBracket_53 (q := 56) rfl ?_
        refine j_iconst (v := 1) dX1_readBracket_56 (q := 57) rfl (by decide) ?_
        refine j_iretz dX1_readBracket_57 rfl (by decide) ?_
        rw [if_pos c_16, if_pos ⟨by omega, by omega⟩]
        exact ⟨rfl, RI_nx hR1, (FR_nx.tr hF1).tr FR_nx⟩
      · skip
        refine j_iconst (v := 0) dX1_readBracket_44 (q := 45) rfl (by decide) ?_
        refine j_iretz dX1_readBracket_45 rfl (by decide) ?_
        rw [if_pos c_16, if_neg (by omega)]
        exact ⟨rfl, hR1, FR_nx.tr hF1⟩
  · skip
    refine j_iconst (v := 0) dX1_readBracket_44 (q := 45) rfl (by decide) ?_
    refine j_iretz dX1_readBracket_45 rfl (by decide) ?_
    rw [if_neg c_16]
    exact ⟨rfl, hR1, FR_nx.tr hF1⟩
theorem ct_ro_0 {g : GT} {σ : S_} {B : Nat → Nat} {L u : Nat} (hL : L ≤ 60) (hB : ∀ j, j < L → B j < 256) {ρ : Nat} (he : ρ = 5) (hu : u < 2) {T : PT} (ha : T.1 ≤ L) (hn : T.2.1 ≤ T.1) (hR : RI B L u σ T) : CT g 6 M_X1_readOperand [.ref 54, .int (nI ρ)] σ (PZ B L u σ (pOn B L u 0 T)) := by
  obtain ⟨h1, h2, h3, h4, h5, h6⟩ := id hR
  refine ct_of [.ref 54, .int (nI ρ), .null, .null] pn_X1_readOperand rfl (Nat.le_of_ble_eq_true rfl) ?_
  refine j_aload_n dX1_readOperand_0 (q := 1) rfl rfl ?_
  refine j_getIV fs_X1_41 rfl rfl h1 dX1_readOperand_1 (q := 4) rfl ?_
  refine j_aload_n dX1_readOperand_4 (q := 5) rfl rfl ?_
  refine j_getIV fs_X1_37 rfl rfl h2 dX1_readOperand_5 (q := 8) rfl ?_
  refine j_icmp_ltN (by omega) (by omega) dX1_readOperand_8 (t := 13) (by decide) (q := 11) rfl (fun c_8 => ?_) (fun c_8 => ?_)
  · skip
    have hbt := hB T.1 (by omega)
    refine j_aload_n dX1_readOperand_13 (q := 14) rfl rfl ?_
    refine j_getR (r := 55) fs_X1_18 rfl rfl rfl dX1_readOperand_14 (q := 17) rfl ?_
    refine j_aload_n dX1_readOperand_17 (q := 18) rfl rfl ?_
    refine j_getIV fs_X1_41 rfl rfl h1 dX1_readOperand_18 (q := 21) rfl ?_
    refine j_ialdV rfl (by omega) (h3 T.1 (by omega)) dX1_readOperand_21 (q := 22) rfl ?_
    refine j_istore_n_4_2 dX1_readOperand_22 (q := 23) rfl rfl rfl ?_
    refine j_iload_n dX1_readOperand_23 (q := 24) rfl rfl ?_
    refine j_callSi1E (M' := M_X1_isDigit) lk_X1_63 ms_X1_isDigit (by decide) (Nat.le_of_ble_eq_true rfl) dX1_readOperand_24 (q := 27) rfl (ct_X1_isDigit (hB _ (by omega))) ?_
    refine j_ifeqB dX1_readOperand_27 (t := 36) (by decide) (q := 30) rfl (fun c_27 => ?_) (fun c_27 => ?_)
    · skip
      refine j_aload_n dX1_readOperand_30 (q := 31) rfl rfl ?_
      refine j_callVv0 (M' := M_X1_readNumber) lk_X1_66 mv_X1_readNumber ob_54 (by decide) (Nat.le_of_ble_eq_true rfl) dX1_readOperand_31 (q := 34) rfl (ct_X1_readNumber hL hB ha (by omega) hR) ?_
      intro τ1 hz1
      obtain ⟨_, hR1, hF1⟩ := hz1
      refine j_iconst (v := 1) dX1_readOperand_34 (q := 35) rfl (by decide) ?_
      refine j_iretz dX1_readOperand_35 rfl (by decide) ?_
      show PZ B L u σ (pLf B L u (false, T) T) _ _
      unfold pLf
      rw [if_pos c_8, if_pos c_27]
      exact ⟨rfl, hR1, hF1⟩
    · skip
      refine j_aload_n dX1_readOperand_36 (q := 37) rfl rfl ?_
      refine j_getV fs_X1_24 rfl (v := .ref (101 + u)) (names_at hu h6) dX1_readOperand_37 (q := 40) rfl ?_
      refine j_iload_n dX1_readOperand_40 (q := 41) rfl rfl ?_
      refine j_i2c dX1_readOperand_41 (q := 42) rfl ?_
      rw [ch_eq _ (hB _ (by omega))]
      refine j_callVi1E (M' := M_J0_indexOf_0f7a4) lk_X1_69 mv_J0_indexOf_0f7a4 (show OB (101 + u) RJ0 by rw [show 101 + u = 100 + (u + 1) by omega]; exact ob_s (u + 1) (by omega)) (by decide) (Nat.le_of_ble_eq_true rfl) dX1_readOperand_42 (q := 45) rfl (ct_J0_indexOf_0f7a4 hu (hB _ (by omega))) ?_
      refine j_istore_n_4_3 dX1_readOperand_45 (q := 46) rfl rfl rfl ?_
      refine j_iload_n dX1_readOperand_46 (q := 47) rfl rfl ?_
      refine j_if_lt dX1_readOperand_47 (t := 71) (by decide) (q := 50) rfl (fun c_47 => ?_) (fun c_47 => ?_)
      · skip
        refine j_iload_n dX1_readOperand_71 (q := 72) rfl rfl ?_
        refine j_iconst (v := 5) dX1_readOperand_72 (q := 73) rfl (by decide) ?_
        refine j_icmp_ltN (b := 5) (by omega) (by omega) dX1_readOperand_73 (t := 78) (by decide) (q := 76) rfl (fun c_73 => ?_) (fun c_73 => ?_)
        · skip
          omega
        · skip
          refine j_iconst (v := 0) dX1_readOperand_76 (q := 77) rfl (by decide) ?_
          refine j_iretz dX1_readOperand_77 rfl (by decide) ?_
          show PZ B L u σ (pLf B L u (false, T) T) _ _
          unfold pLf
          rw [if_pos c_8, if_neg c_27, if_neg (ixR_lt.mp c_47)]
          exact ⟨rfl, hR, FR.rf⟩
      · skip
        refine j_aload_n dX1_readOperand_50 (q := 51) rfl rfl ?_
        refine j_dup dX1_readOperand_51 (q := 52) rfl rfl ?_
        refine j_getIV fs_X1_41 rfl rfl h1 dX1_readOperand_52 (q := 55) rfl ?_
        refine j_iconst (v := 1) dX1_readOperand_55 (q := 56) rfl (by decide) ?_
        refine j_iaddN (b := 1) dX1_readOperand_56 (q := 57) rfl ?_
        refine j_putI fs_X1_41 rfl rfl fp_1_3 dX1_readOperand_57 (q := 60) rfl ?_
        refine j_aload_n dX1_readOperand_60 (q := 61) rfl rfl ?_
        refine j_getR (r := 56) fs_X1_12 rfl rfl rfl dX1_readOperand_61 (q := 64) rfl ?_
        refine j_iconst (v := 2) dX1_readOperand_64 (q := 65) rfl (by decide) ?_
        refine j_iload_n dX1_readOperand_65 (q := 66) rfl rfl ?_
        refine j_callVv2E (M' := M_X3_add) lk_X1_59 mv_X3_add ob_56 (by decide) (Nat.le_of_ble_eq_true rfl) dX1_readOperand_66 (q := 69) rfl (ct_X3_add (t := 56) (n := T.2.1) (.inr (.inr (.inr (.inr rfl)))) (by omega) ((up_nc (by decide)).trans h4)) ?_
        refine j_iconst (v := 1) dX1_readOperand_69 (q := 70) rfl (by decide) ?_
        refine j_iretz dX1_readOperand_70 rfl (by decide) ?_
        show PZ B L u σ (pLf B L u (false, T) T) _ _
        unfold pLf
        rw [if_pos c_8, if_neg c_27, if_pos (Classical.byContradiction (fun q => c_47 (ixR_lt.mpr q)))]
        have h3q : ixQ u (B T.1) < 3 := Classical.byContradiction (fun q => c_47 (ixR_lt.mpr q))
        exact ⟨rfl, RI_add (w := 1) (v := nI (B T.1)) (RI_nx hR) rfl ((ix_ok u hu _ (hB _ c_8) h3q).trans (if_pos h3q).symm), FR_nx.tr FR_add⟩
  · skip
    refine j_iconst (v := 0) dX1_readOperand_11 (q := 12) rfl (by decide) ?_
    refine j_iretz dX1_readOperand_12 rfl (by decide) ?_
    show PZ B L u σ (pLf B L u (false, T) T) _ _
    unfold pLf
    rw [if_neg (by omega)]
    exact ⟨rfl, hR, FR.rf⟩
theorem ct_ro_s {g : GT} {σ : S_} {B : Nat → Nat} {L u : Nat} (hL : L ≤ 60) (hB : ∀ j, j < L → B j < 256) {e : Nat} (HO : ∀ (ρ : Nat), ρ + e = 5 → ∀ (T : PT) (σ : S_), T.1 ≤ L → T.2.1 ≤ T.1 → RI B L u σ T → CT g (8 * e + 6) M_X1_readOperand [.ref 54, .int (nI ρ)] σ (PZ B L u σ (pOn B L u e T))) (HR : ∀ (r ρ : Nat), r + 5 = 5 → ρ + e = 5 → ∀ (T : PT) (σ : S_), T.1 ≤ L → T.2.1 ≤ T.1 → RI B L u σ T → CT g (8 * e + 7 + 5) M_X1_readRank [.ref 54, .int (nI r), .int (nI ρ)] σ (PZ B L u σ (pRk B L (pOn B L u e) 5 T))) {ρ : Nat} (he : ρ + (e + 1) = 5) (hu : u < 2) {T : PT} (ha : T.1 ≤ L) (hn : T.2.1 ≤ T.1) (hR : RI B L u σ T) : CT g (8 * (e + 1) + 6) M_X1_readOperand [.ref 54, .int (nI ρ)] σ (PZ B L u σ (pOn B L u (e + 1) T)) := by
  obtain ⟨h1, h2, h3, h4, h5, h6⟩ := id hR
  refine ct_of [.ref 54, .int (nI ρ), .null, .null] pn_X1_readOperand rfl (Nat.le_of_ble_eq_true rfl) ?_
  refine j_aload_n dX1_readOperand_0 (q := 1) rfl rfl ?_
  refine j_getIV fs_X1_41 rfl rfl h1 dX1_readOperand_1 (q := 4) rfl ?_
  refine j_aload_n dX1_readOperand_4 (q := 5) rfl rfl ?_
  refine j_getIV fs_X1_37 rfl rfl h2 dX1_readOperand_5 (q := 8) rfl ?_
  refine j_icmp_ltN (by omega) (by omega) dX1_readOperand_8 (t := 13) (by decide) (q := 11) rfl (fun c_8 => ?_) (fun c_8 => ?_)
  · skip
    have hbt := hB T.1 (by omega)
    refine j_aload_n dX1_readOperand_13 (q := 14) rfl rfl ?_
    refine j_getR (r := 55) fs_X1_18 rfl rfl rfl dX1_readOperand_14 (q := 17) rfl ?_
    refine j_aload_n dX1_readOperand_17 (q := 18) rfl rfl ?_
    refine j_getIV fs_X1_41 rfl rfl h1 dX1_readOperand_18 (q := 21) rfl ?_
    refine j_ialdV rfl (by omega) (h3 T.1 (by omega)) dX1_readOperand_21 (q := 22) rfl ?_
    refine j_istore_n_4_2 dX1_readOperand_22 (q := 23) rfl rfl rfl ?_
    refine j_iload_n dX1_readOperand_23 (q := 24) rfl rfl ?_
    refine j_callSi1E (M' := M_X1_isDigit) lk_X1_63 ms_X1_isDigit (by omega) (Nat.le_of_ble_eq_true rfl) dX1_readOperand_24 (q := 27) rfl (ct_X1_isDigit (hB _ (by omega))) ?_
    refine j_ifeqB dX1_readOperand_27 (t := 36) (by decide) (q := 30) rfl (fun c_27 => ?_) (fun c_27 => ?_)
    · skip
      refine j_aload_n dX1_readOperand_30 (q := 31) rfl rfl ?_
      refine j_callVv0 (M' := M_X1_readNumber) lk_X1_66 mv_X1_readNumber ob_54 (by omega) (Nat.le_of_ble_eq_true rfl) dX1_readOperand_31 (q := 34) rfl (ct_X1_readNumber hL hB ha (by omega) hR) ?_
      intro τ1 hz1
      obtain ⟨_, hR1, hF1⟩ := hz1
      refine j_iconst (v := 1) dX1_readOperand_34 (q := 35) rfl (by decide) ?_
      refine j_iretz dX1_readOperand_35 rfl (by decide) ?_
      show PZ B L u σ (pLf B L u (if B T.1 = 33 then (if (pOn B L u e (pNx T)).1 = true then (true, pAdd 2 0 (pOn B L u e (pNx T)).2) else (false, (pOn B L u e (pNx T)).2)) else if B T.1 = 40 then (if (pRk B L (pOn B L u e) 5 (pNx T)).1 = true then (if (pRk B L (pOn B L u e) 5 (pNx T)).2.1 < L ∧ B (pRk B L (pOn B L u e) 5 (pNx T)).2.1 = 41 then (true, pNx (pRk B L (pOn B L u e) 5 (pNx T)).2) else (false, (pRk B L (pOn B L u e) 5 (pNx T)).2)) else (false, (pRk B L (pOn B L u e) 5 (pNx T)).2)) else (false, T)) T) _ _
      unfold pLf
      rw [if_pos c_8, if_pos c_27]
      exact ⟨rfl, hR1, hF1⟩
    · skip
      refine j_aload_n dX1_readOperand_36 (q := 37) rfl rfl ?_
      refine j_getV fs_X1_24 rfl (v := .ref (101 + u)) (names_at hu h6) dX1_readOperand_37 (q := 40) rfl ?_
      refine j_iload_n dX1_readOperand_40 (q := 41) rfl rfl ?_
      refine j_i2c dX1_readOperand_41 (q := 42) rfl ?_
      rw [ch_eq _ (hB _ (by omega))]
      refine j_callVi1E (M' := M_J0_indexOf_0f7a4) lk_X1_69 mv_J0_indexOf_0f7a4 (show OB (101 + u) RJ0 by rw [show 101 + u = 100 + (u + 1) by omega]; exact ob_s (u + 1) (by omega)) (by omega) (Nat.le_of_ble_eq_true rfl) dX1_readOperand_42 (q := 45) rfl (ct_J0_indexOf_0f7a4 hu (hB _ (by omega))) ?_
      refine j_istore_n_4_3 dX1_readOperand_45 (q := 46) rfl rfl rfl ?_
      refine j_iload_n dX1_readOperand_46 (q := 47) rfl rfl ?_
      refine j_if_lt dX1_readOperand_47 (t := 71) (by decide) (q := 50) rfl (fun c_47 => ?_) (fun c_47 => ?_)
      · skip
        refine j_iload_n dX1_readOperand_71 (q := 72) rfl rfl ?_
        refine j_iconst (v := 5) dX1_readOperand_72 (q := 73) rfl (by decide) ?_
        refine j_icmp_ltN (b := 5) (by omega) (by omega) dX1_readOperand_73 (t := 78) (by decide) (q := 76) rfl (fun c_73 => ?_) (fun c_73 => ?_)
        · skip
          refine j_iload_n dX1_readOperand_78 (q := 79) rfl rfl ?_
          refine j_bipush (v := 33) dX1_readOperand_79 (q := 81) rfl (by decide) ?_
          refine j_icmp_neN (b := 33) (by omega) (by omega) dX1_readOperand_81 (t := 94) (by decide) (q := 84) rfl (fun c_81 => ?_) (fun c_81 => ?_)
          · skip
            refine j_iload_n dX1_readOperand_94 (q := 95) rfl rfl ?_
            refine j_bipush (v := 40) dX1_readOperand_95 (q := 97) rfl (by decide) ?_
            refine j_icmp_neN (b := 40) (by omega) (by omega) dX1_readOperand_97 (t := 114) (by decide) (q := 100) rfl (fun c_97 => ?_) (fun c_97 => ?_)
            · skip
              refine j_iconst (v := 0) dX1_readOperand_114 (q := 115) rfl (by decide) ?_
              refine j_iretz dX1_readOperand_115 rfl (by decide) ?_
              show PZ B L u σ (pLf B L u (if B T.1 = 33 then (if (pOn B L u e (pNx T)).1 = true then (true, pAdd 2 0 (pOn B L u e (pNx T)).2) else (false, (pOn B L u e (pNx T)).2)) else if B T.1 = 40 then (if (pRk B L (pOn B L u e) 5 (pNx T)).1 = true then (if (pRk B L (pOn B L u e) 5 (pNx T)).2.1 < L ∧ B (pRk B L (pOn B L u e) 5 (pNx T)).2.1 = 41 then (true, pNx (pRk B L (pOn B L u e) 5 (pNx T)).2) else (false, (pRk B L (pOn B L u e) 5 (pNx T)).2)) else (false, (pRk B L (pOn B L u e) 5 (pNx T)).2)) else (false, T)) T) _ _
              unfold pLf
              rw [if_pos c_8, if_neg c_27, if_neg (ixR_lt.mp c_47), if_neg (by omega), if_neg (by omega)]
              exact ⟨rfl, hR, FR.rf⟩
            · skip
              refine j_aload_n dX1_readOperand_100 (q := 101) rfl rfl ?_
              refine j_iload_n dX1_readOperand_101 (q := 102) rfl rfl ?_
              refine j_iconst (v := 1) dX1_readOperand_102 (q := 103) rfl (by decide) ?_
              refine j_iaddN (b := 1) dX1_readOperand_103 (q := 104) rfl ?_
              refine j_callVi1 (M' := M_X1_readBracket) lk_X1_77 mv_X1_readBracket ob_54 (by omega) (Nat.le_of_ble_eq_true rfl) dX1_readOperand_104 (q := 107) rfl (ct_X1_readBracket hL hB HR (by omega) hu ha hn hR c_8) ?_
              intro x1 τ1 hz
              obtain ⟨z1, hR1, hF1⟩ := hz
              cases z1
              refine j_ifeqB dX1_readOperand_107 (t := 114) (by decide) (q := 110) rfl (fun c_107 => ?_) (fun c_107 => ?_)
              · skip
                refine j_iconst (v := 1) dX1_readOperand_110 (q := 111) rfl (by decide) ?_
                refine j_goto (q := 115) dX1_readOperand_111 (by decide) ?_
                refine j_iretz dX1_readOperand_115 rfl (by decide) ?_
                show PZ B L u σ (pLf B L u (if B T.1 = 33 then (if (pOn B L u e (pNx T)).1 = true then (true, pAdd 2 0 (pOn B L u e (pNx T)).2) else (false, (pOn B L u e (pNx T)).2)) else if B T.1 = 40 then (if (pRk B L (pOn B L u e) 5 (pNx T)).1 = true then (if (pRk B L (pOn B L u e) 5 (pNx T)).2.1 < L ∧ B (pRk B L (pOn B L u e) 5 (pNx T)).2.1 = 41 then (true, pNx (pRk B L (pOn B L u e) 5 (pNx T)).2) else (false, (pRk B L (pOn B L u e) 5 (pNx T)).2)) else (false, (pRk B L (pOn B L u e) 5 (pNx T)).2)) else (false, T)) T) _ _
                unfold pLf
                rw [if_pos c_8, if_neg c_27, if_neg (ixR_lt.mp c_47), if_neg (by omega), if_pos (by omega)]
                exact ⟨congrArg Value.int (bI_t c_107).symm, hR1, hF1⟩
              · skip
                refine j_iconst (v := 0) dX1_readOperand_114 (q := 115) rfl (by decide) ?_
                refine j_iretz dX1_readOperand_115 rfl (by decide) ?_
                show PZ B L u σ (pLf B L u (if B T.1 = 33 then (if (pOn B L u e (pNx T)).1 = true then (true, pAdd 2 0 (pOn B L u e (pNx T)).2) else (false, (pOn B L u e (pNx T)).2)) else if B T.1 = 40 then (if (pRk B L (pOn B L u e) 5 (pNx T)).1 = true then (if (pRk B L (pOn B L u e) 5 (pNx T)).2.1 < L ∧ B (pRk B L (pOn B L u e) 5 (pNx T)).2.1 = 41 then (true, pNx (pRk B L (pOn B L u e) 5 (pNx T)).2) else (false, (pRk B L (pOn B L u e) 5 (pNx T)).2)) else (false, (pRk B L (pOn B L u e) 5 (pNx T)).2)) else (false, T)) T) _ _
                unfold pLf
                rw [if_pos c_8, if_neg c_27, if_neg (ixR_lt.mp c_47), if_neg (by omega), if_pos (by omega)]
                exact ⟨congrArg Value.int (bI_f c_107).symm, hR1, hF1⟩
          · skip
            refine j_aload_n dX1_readOperand_84 (q := 85) rfl rfl ?_
            refine j_iload_n dX1_readOperand_85 (q := 86) rfl rfl ?_
            refine j_iconst (v := 1) dX1_readOperand_86 (q := 87) rfl (by decide) ?_
            refine j_iaddN (b := 1) dX1_readOperand_87 (q := 88) rfl ?_
            refine j_callVi1 (M' := M_X1_readNot) lk_X1_74 mv_X1_readNot ob_54 (by omega) (Nat.le_of_ble_eq_true rfl) dX1_readOperand_88 (q := 91) rfl (ct_X1_readNot hL hB HO (by omega) hu ha hn hR c_8) ?_
            intro x1 τ1 hz1
            have hzz := hz1.1
            cases hzz
            refine j_goto (q := 115) dX1_readOperand_91 (by decide) ?_
            refine j_iretB dX1_readOperand_115 rfl ?_
            show PZ B L u σ (pLf B L u (if B T.1 = 33 then (if (pOn B L u e (pNx T)).1 = true then (true, pAdd 2 0 (pOn B L u e (pNx T)).2) else (false, (pOn B L u e (pNx T)).2)) else if B T.1 = 40 then (if (pRk B L (pOn B L u e) 5 (pNx T)).1 = true then (if (pRk B L (pOn B L u e) 5 (pNx T)).2.1 < L ∧ B (pRk B L (pOn B L u e) 5 (pNx T)).2.1 = 41 then (true, pNx (pRk B L (pOn B L u e) 5 (pNx T)).2) else (false, (pRk B L (pOn B L u e) 5 (pNx T)).2)) else (false, (pRk B L (pOn B L u e) 5 (pNx T)).2)) else (false, T)) T) _ _
            unfold pLf
            rw [if_pos c_8, if_neg c_27, if_neg (ixR_lt.mp c_47), if_pos (by omega)]
            exact hz1
        · skip
          omega
      · skip
        refine j_aload_n dX1_readOperand_50 (q := 51) rfl rfl ?_
        refine j_dup dX1_readOperand_51 (q := 52) rfl rfl ?_
        refine j_getIV fs_X1_41 rfl rfl h1 dX1_readOperand_52 (q := 55) rfl ?_
        refine j_iconst (v := 1) dX1_readOperand_55 (q := 56) rfl (by decide) ?_
        refine j_iaddN (b := 1) dX1_readOperand_56 (q := 57) rfl ?_
        refine j_putI fs_X1_41 rfl rfl fp_1_3 dX1_readOperand_57 (q := 60) rfl ?_
        refine j_aload_n dX1_readOperand_60 (q := 61) rfl rfl ?_
        refine j_getR (r := 56) fs_X1_12 rfl rfl rfl dX1_readOperand_61 (q := 64) rfl ?_
        refine j_iconst (v := 2) dX1_readOperand_64 (q := 65) rfl (by decide) ?_
        refine j_iload_n dX1_readOperand_65 (q := 66) rfl rfl ?_
        refine j_callVv2E (M' := M_X3_add) lk_X1_59 mv_X3_add ob_56 (by omega) (Nat.le_of_ble_eq_true rfl) dX1_readOperand_66 (q := 69) rfl (ct_X3_add (t := 56) (n := T.2.1) (.inr (.inr (.inr (.inr rfl)))) (by omega) ((up_nc (by decide)).trans h4)) ?_
        refine j_iconst (v := 1) dX1_readOperand_69 (q := 70) rfl (by decide) ?_
        refine j_iretz dX1_readOperand_70 rfl (by decide) ?_
        show PZ B L u σ (pLf B L u (if B T.1 = 33 then (if (pOn B L u e (pNx T)).1 = true then (true, pAdd 2 0 (pOn B L u e (pNx T)).2) else (false, (pOn B L u e (pNx T)).2)) else if B T.1 = 40 then (if (pRk B L (pOn B L u e) 5 (pNx T)).1 = true then (if (pRk B L (pOn B L u e) 5 (pNx T)).2.1 < L ∧ B (pRk B L (pOn B L u e) 5 (pNx T)).2.1 = 41 then (true, pNx (pRk B L (pOn B L u e) 5 (pNx T)).2) else (false, (pRk B L (pOn B L u e) 5 (pNx T)).2)) else (false, (pRk B L (pOn B L u e) 5 (pNx T)).2)) else (false, T)) T) _ _
        unfold pLf
        rw [if_pos c_8, if_neg c_27, if_pos (Classical.byContradiction (fun q => c_47 (ixR_lt.mpr q)))]
        have h3q : ixQ u (B T.1) < 3 := Classical.byContradiction (fun q => c_47 (ixR_lt.mpr q))
        exact ⟨rfl, RI_add (w := 1) (v := nI (B T.1)) (RI_nx hR) rfl ((ix_ok u hu _ (hB _ c_8) h3q).trans (if_pos h3q).symm), FR_nx.tr FR_add⟩
  · skip
    refine j_iconst (v := 0) dX1_readOperand_11 (q := 12) rfl (by decide) ?_
    refine j_iretz dX1_readOperand_12 rfl (by decide) ?_
    show PZ B L u σ (pLf B L u (if B T.1 = 33 then (if (pOn B L u e (pNx T)).1 = true then (true, pAdd 2 0 (pOn B L u e (pNx T)).2) else (false, (pOn B L u e (pNx T)).2)) else if B T.1 = 40 then (if (pRk B L (pOn B L u e) 5 (pNx T)).1 = true then (if (pRk B L (pOn B L u e) 5 (pNx T)).2.1 < L ∧ B (pRk B L (pOn B L u e) 5 (pNx T)).2.1 = 41 then (true, pNx (pRk B L (pOn B L u e) 5 (pNx T)).2) else (false, (pRk B L (pOn B L u e) 5 (pNx T)).2)) else (false, (pRk B L (pOn B L u e) 5 (pNx T)).2)) else (false, T)) T) _ _
    unfold pLf
    rw [if_neg (by omega)]
    exact ⟨rfl, hR, FR.rf⟩
theorem ct_rr_0 {g : GT} {σ : S_} {B : Nat → Nat} {L u : Nat} (hL : L ≤ 60) (hB : ∀ j, j < L → B j < 256) {e : Nat} (HO : ∀ (ρ : Nat), ρ + e = 5 → ∀ (T : PT) (σ : S_), T.1 ≤ L → T.2.1 ≤ T.1 → RI B L u σ T → CT g (8 * e + 6) M_X1_readOperand [.ref 54, .int (nI ρ)] σ (PZ B L u σ (pOn B L u e T))) {r ρ : Nat} (hr : r = 5) (he : ρ + e = 5) (hu : u < 2) {T : PT} (ha : T.1 ≤ L) (hn : T.2.1 ≤ T.1) (hR : RI B L u σ T) : CT g (8 * e + 7) M_X1_readRank [.ref 54, .int (nI r), .int (nI ρ)] σ (PZ B L u σ (pOn B L u e T)) := by
  refine ct_of [.ref 54, .int (nI r), .int (nI ρ), .null] pn_X1_readRank rfl (Nat.le_of_ble_eq_true rfl) ?_
  refine j_iload_n dX1_readRank_0 (q := 1) rfl rfl ?_
  refine j_iconst (v := 5) dX1_readRank_1 (q := 2) rfl (by decide) ?_
  refine j_icmp_ltN (b := 5) (by omega) (by omega) dX1_readRank_2 (t := 11) (by decide) (q := 5) rfl (fun c_2 => ?_) (fun c_2 => ?_)
  · skip
    omega
  · skip
    refine j_aload_n dX1_readRank_5 (q := 6) rfl rfl ?_
    refine j_iload_n dX1_readRank_6 (q := 7) rfl rfl ?_
    refine j_callVi1 (M' := M_X1_readOperand) lk_X1_51 mv_X1_readOperand ob_54 (by omega) (Nat.le_of_ble_eq_true rfl) dX1_readRank_7 (q := 10) rfl (HO ρ he T σ ha hn hR) ?_
    intro x1 τ1 hz1
    have hzz := hz1.1
    cases hzz
    refine j_iretB dX1_readRank_10 rfl ?_
    exact hz1
theorem rl_loop {g : GT} {B : Nat → Nat} {L u : Nat} (hL : L ≤ 60) (hB : ∀ j, j < L → B j < 256) {d r ρ : Nat} (hr : r < 5) {G : PT → Bool × PT} (hG : ∀ T, T.1 ≤ L → PQ L u T (G T)) (HG : ∀ (T : PT) (σ : S_), T.1 ≤ L → T.2.1 ≤ T.1 → RI B L u σ T → CT g d M_X1_readRank [.ref 54, .int (nI (r + 1)), .int (nI ρ)] σ (PZ B L u σ (G T))) {σ0 : S_} : ∀ (k : Nat) (T : PT) (σ : S_) (v3 : Value), L < T.1 + k → T.1 ≤ L → T.2.1 ≤ T.1 → RI B L u σ T → FR σ0 σ → J g (d + 1) M_X1_readRank (PZ B L u σ0 (pL B L G r k T)) 24 [.ref 54, .int (nI r), .int (nI ρ), v3] [] σ := by
  intro k
  induction k with
  | zero =>
    intro T σ v3 hk ha hn hR hF
    omega
  | succ k ih =>
    intro T σ v3 hk ha hn hR hF
    obtain ⟨h1, h2, h3, h4, h5, h6⟩ := id hR
    refine j_aload_n dX1_readRank_24 (q := 25) rfl rfl ?_
    refine j_getIV fs_X1_41 rfl rfl h1 dX1_readRank_25 (q := 28) rfl ?_
    refine j_aload_n dX1_readRank_28 (q := 29) rfl rfl ?_
    refine j_getIV fs_X1_37 rfl rfl h2 dX1_readRank_29 (q := 32) rfl ?_
    refine j_icmp_geN (by omega) (by omega) dX1_readRank_32 (t := 104) (by decide) (q := 35) rfl (fun c_32 => ?_) (fun c_32 => ?_)
    · skip
      refine j_iconst (v := 1) dX1_readRank_104 (q := 105) rfl (by decide) ?_
      refine j_iretz dX1_readRank_105 rfl (by decide) ?_
      rw [pl_end (by omega)]
      exact ⟨rfl, hR, hF⟩
    · skip
      refine j_aload_n dX1_readRank_35 (q := 36) rfl rfl ?_
      refine j_getR (r := 55) fs_X1_18 rfl rfl rfl dX1_readRank_36 (q := 39) rfl ?_
      refine j_aload_n dX1_readRank_39 (q := 40) rfl rfl ?_
      refine j_getIV fs_X1_41 rfl rfl h1 dX1_readRank_40 (q := 43) rfl ?_
      refine j_ialdV rfl (by omega) (h3 T.1 (by omega)) dX1_readRank_43 (q := 44) rfl ?_
      refine j_callSi1E (M' := M_X1_rankOf) lk_X1_55 ms_X1_rankOf (by omega) (Nat.le_of_ble_eq_true rfl) dX1_readRank_44 (q := 47) rfl (ct_X1_rankOf (hB _ (by omega))) ?_
      refine j_iload_n dX1_readRank_47 (q := 48) rfl rfl ?_
      refine j_icmp_ne dX1_readRank_48 (t := 104) (by decide) (q := 51) rfl (fun c_48 => ?_) (fun c_48 => ?_)
      · skip
        refine j_iconst (v := 1) dX1_readRank_104 (q := 105) rfl (by decide) ?_
        refine j_iretz dX1_readRank_105 rfl (by decide) ?_
        rw [pl_end (fun q => c_48 ((rkI_eq hr).mpr q.2))]
        exact ⟨rfl, hR, hF⟩
      · skip
        refine j_aload_n dX1_readRank_51 (q := 52) rfl rfl ?_
        refine j_getR (r := 55) fs_X1_18 rfl rfl rfl dX1_readRank_52 (q := 55) rfl ?_
        refine j_aload_n dX1_readRank_55 (q := 56) rfl rfl ?_
        refine j_getIV fs_X1_41 rfl rfl h1 dX1_readRank_56 (q := 59) rfl ?_
        refine j_ialdV rfl (by omega) (h3 T.1 (by omega)) dX1_readRank_59 (q := 60) rfl ?_
        refine j_istore_n_4_3 dX1_readRank_60 (q := 61) rfl rfl rfl ?_
        refine j_aload_n dX1_readRank_61 (q := 62) rfl rfl ?_
        refine j_dup dX1_readRank_62 (q := 63) rfl rfl ?_
        refine j_getIV fs_X1_41 rfl rfl h1 dX1_readRank_63 (q := 66) rfl ?_
        refine j_iconst (v := 1) dX1_readRank_66 (q := 67) rfl (by decide) ?_
        refine j_iaddN (b := 1) dX1_readRank_67 (q := 68) rfl ?_
        refine j_putI fs_X1_41 rfl rfl fp_1_3 dX1_readRank_68 (q := 71) rfl ?_
        refine j_aload_n dX1_readRank_71 (q := 72) rfl rfl ?_
        refine j_iload_n dX1_readRank_72 (q := 73) rfl rfl ?_
        refine j_iconst (v := 1) dX1_readRank_73 (q := 74) rfl (by decide) ?_
        refine j_iaddN (b := 1) dX1_readRank_74 (q := 75) rfl ?_
        refine j_iload_n dX1_readRank_75 (q := 76) rfl rfl ?_
        refine j_callVi2 (M' := M_X1_readRank) lk_X1_47 mv_X1_readRank ob_54 (by omega) (Nat.le_of_ble_eq_true rfl) dX1_readRank_76 (q := 79) rfl (HG (pNx T) _ (by show T.1 + 1 ≤ L; omega) (by show T.2.1 ≤ T.1 + 1; omega) (RI_nx hR)) ?_
        intro x1 τ1 hz
        obtain ⟨z1, hR1, hF1⟩ := hz
        cases z1
        have hc : T.1 < L ∧ rkB (B T.1) = r := ⟨by omega, (rkI_eq hr).mp (by simpa using c_48)⟩
        have hq := hG (pNx T) hc.1
        obtain ⟨q1, q2, q3, q4, q5⟩ := hq.1
        replace q1 : T.1 + 1 ≤ _ := q1
        replace q3 : T.2.1 ≤ _ := q3
        replace q4 : _ + (T.1 + 1) ≤ _ + T.2.1 := q4
        refine j_ifneB dX1_readRank_79 (t := 84) (by decide) (q := 82) rfl (fun c_79 => ?_) (fun c_79 => ?_)
        · skip
          refine j_aload_n dX1_readRank_84 (q := 85) rfl rfl ?_
          refine j_getR (r := 56) fs_X1_12 rfl rfl rfl dX1_readRank_85 (q := 88) rfl ?_
          refine j_iload_n dX1_readRank_88 (q := 89) rfl rfl ?_
          refine j_iconst (v := 0) dX1_readRank_89 (q := 90) rfl (by decide) ?_
          refine j_callVv2E (M' := M_X3_add) lk_X1_59 mv_X3_add ob_56 (by omega) (Nat.le_of_ble_eq_true rfl) dX1_readRank_90 (q := 93) rfl (ct_X3_add (t := 56) (n := (G (pNx T)).2.2.1) (.inr (.inr (.inr (.inr rfl)))) (by omega) hR1.2.2.2.1) ?_
          have hR2 := RI_add (w := 3) (v := nI (B T.1)) hR1 (s := nI (B T.1)) (x := 0) rfl rfl
          have hF2 := ((hF.tr FR_nx).tr hF1).tr (FR_add (n := (G (pNx T)).2.2.1) (s := nI (B T.1)) (x := 0) (y := nI (G (pNx T)).2.2.1 + 1))
          refine j_iload_n dX1_readRank_93 (q := 94) rfl rfl ?_
          refine j_iconst (v := 2) dX1_readRank_94 (q := 95) rfl (by decide) ?_
          refine j_icmp_neN (b := 2) (by omega) (by omega) dX1_readRank_95 (t := 101) (by decide) (q := 98) rfl (fun c_95 => ?_) (fun c_95 => ?_)
          · skip
            refine j_goto (q := 24) dX1_readRank_101 (by decide) ?_
            rw [show pL B L G r (k + 1) T = pL B L G r k (pAdd 3 (nI (B T.1)) (G (pNx T)).2) from (if_pos hc).trans ((if_pos c_79).trans (if_neg (by omega)))]
            exact ih (pAdd 3 (nI (B T.1)) (G (pNx T)).2) _ _ (by show L < (G (pNx T)).2.1 + k; omega) q2 (by show (G (pNx T)).2.2.1 + 1 ≤ (G (pNx T)).2.1; omega) hR2 hF2
          · skip
            refine j_goto (q := 104) dX1_readRank_98 (by decide) ?_
            refine j_iconst (v := 1) dX1_readRank_104 (q := 105) rfl (by decide) ?_
            refine j_iretz dX1_readRank_105 rfl (by decide) ?_
            rw [show pL B L G r (k + 1) T = (true, pAdd 3 (nI (B T.1)) (G (pNx T)).2) from (if_pos hc).trans ((if_pos c_79).trans (if_pos (by omega)))]
            exact ⟨rfl, hR2, hF2⟩
        · skip
          refine j_iconst (v := 0) dX1_readRank_82 (q := 83) rfl (by decide) ?_
          refine j_iretz dX1_readRank_83 rfl (by decide) ?_
          rw [show pL B L G r (k + 1) T = (false, (G (pNx T)).2) from (if_pos hc).trans (if_neg c_79)]
          exact ⟨rfl, hR1, (hF.tr FR_nx).tr hF1⟩
theorem ct_rr_s {g : GT} {σ : S_} {B : Nat → Nat} {L u : Nat} (hL : L ≤ 60) (hB : ∀ j, j < L → B j < 256) {d r ρ j : Nat} (hr : r + (j + 1) = 5) {G0 : PT → Bool × PT} (hG : ∀ T, T.1 ≤ L → PQ L u T (pRk B L G0 j T)) (HG : ∀ (T : PT) (σ : S_), T.1 ≤ L → T.2.1 ≤ T.1 → RI B L u σ T → CT g d M_X1_readRank [.ref 54, .int (nI (r + 1)), .int (nI ρ)] σ (PZ B L u σ (pRk B L G0 j T))) (hu : u < 2) {T : PT} (ha : T.1 ≤ L) (hn : T.2.1 ≤ T.1) (hR : RI B L u σ T) : CT g (d + 1) M_X1_readRank [.ref 54, .int (nI r), .int (nI ρ)] σ (PZ B L u σ (pRk B L G0 (j + 1) T)) := by
  generalize hX : pRk B L G0 j = G at *
  refine ct_of [.ref 54, .int (nI r), .int (nI ρ), .null] pn_X1_readRank rfl (Nat.le_of_ble_eq_true rfl) ?_
  refine j_iload_n dX1_readRank_0 (q := 1) rfl rfl ?_
  refine j_iconst (v := 5) dX1_readRank_1 (q := 2) rfl (by decide) ?_
  refine j_icmp_ltN (b := 5) (by omega) (by omega) dX1_readRank_2 (t := 11) (by decide) (q := 5) rfl (fun c_2 => ?_) (fun c_2 => ?_)
  · skip
    refine j_aload_n dX1_readRank_11 (q := 12) rfl rfl ?_
    refine j_iload_n dX1_readRank_12 (q := 13) rfl rfl ?_
    refine j_iconst (v := 1) dX1_readRank_13 (q := 14) rfl (by decide) ?_
    refine j_iaddN (b := 1) dX1_readRank_14 (q := 15) rfl ?_
    refine j_iload_n dX1_readRank_15 (q := 16) rfl rfl ?_
    refine j_callVi2 (M' := M_X1_readRank) lk_X1_47 mv_X1_readRank ob_54 (by omega) (Nat.le_of_ble_eq_true rfl) dX1_readRank_16 (q := 19) rfl (HG T σ ha hn hR) ?_
    intro x1 τ1 hz
    obtain ⟨z1, hR1, hF1⟩ := hz
    cases z1
    have hq := hG T ha
    obtain ⟨q1, q2, q3, q4, q5⟩ := hq.1
    refine j_ifneB dX1_readRank_19 (t := 24) (by decide) (q := 22) rfl (fun c_19 => ?_) (fun c_19 => ?_)
    · skip
      rw [show pRk B L G0 (j + 1) T = pL B L G (4 - j) 61 (G T).2 from by rw [← hX]; exact if_pos (by rw [hX]; exact c_19), show 4 - j = r by omega]
      exact rl_loop hL hB (by omega) hG HG 61 (G T).2 _ _ (by omega) q2 (by omega) hR1 hF1
    · skip
      refine j_iconst (v := 0) dX1_readRank_22 (q := 23) rfl (by decide) ?_
      refine j_iretz dX1_readRank_23 rfl (by decide) ?_
      rw [show pRk B L G0 (j + 1) T = (false, (G T).2) from by rw [← hX]; exact if_neg (by rw [hX]; exact c_19)]
      exact ⟨rfl, hR1, hF1⟩
  · skip
    omega
theorem rr_all {g : GT} {B : Nat → Nat} {L u : Nat} (hL : L ≤ 60) (hB : ∀ j, j < L → B j < 256) (hu : u < 2) {e : Nat} (HO : ∀ (ρ : Nat), ρ + e = 5 → ∀ (T : PT) (σ : S_), T.1 ≤ L → T.2.1 ≤ T.1 → RI B L u σ T → CT g (8 * e + 6) M_X1_readOperand [.ref 54, .int (nI ρ)] σ (PZ B L u σ (pOn B L u e T))) : ∀ j : Nat, ∀ (r ρ : Nat), r + j = 5 → ρ + e = 5 → ∀ (T : PT) (σ : S_), T.1 ≤ L → T.2.1 ≤ T.1 → RI B L u σ T → CT g (8 * e + 7 + j) M_X1_readRank [.ref 54, .int (nI r), .int (nI ρ)] σ (PZ B L u σ (pRk B L (pOn B L u e) j T)) := by
  intro j
  induction j with
  | zero =>
    intro r ρ hr he T σ ha hn hR
    exact ct_rr_0 hL hB HO (by omega) he hu ha hn hR
  | succ j ih =>
    intro r ρ hr he T σ ha hn hR
    exact ct_rr_s hL hB hr (PQ_Rk (PQ_On hu e) j) (fun T σ ha hn hR => ih (r + 1) ρ (by omega) he T σ ha hn hR) hu ha hn hR
theorem ro_all {g : GT} {B : Nat → Nat} {L u : Nat} (hL : L ≤ 60) (hB : ∀ j, j < L → B j < 256) (hu : u < 2) : ∀ e : Nat, ∀ (ρ : Nat), ρ + e = 5 → ∀ (T : PT) (σ : S_), T.1 ≤ L → T.2.1 ≤ T.1 → RI B L u σ T → CT g (8 * e + 6) M_X1_readOperand [.ref 54, .int (nI ρ)] σ (PZ B L u σ (pOn B L u e T)) := by
  intro e
  induction e with
  | zero =>
    intro ρ he T σ ha hn hR
    exact ct_ro_0 hL hB (by omega) hu ha hn hR
  | succ e ih =>
    intro ρ he T σ ha hn hR
    exact ct_ro_s hL hB ih (rr_all hL hB hu ih 5) he hu ha hn hR
