/-- TEXT u of the reference's row t is one that can be worked out -/
def TOK (t : Nat → Int32) (u : Nat) : Prop := ∃ L, L ≤ 60 ∧ t (60 + 125 * u) = nI L ∧ (0 < L → wfT (sgR t u) (vlR t u) L 0 0) ∧ ∀ j, j < L → okM u (t (60 + 125 * u + 1 + 2 * j)) (t (60 + 125 * u + 2 + 2 * j))
/-- the class's TEXT at T is TEXT u of the row t -/
def TXR (σ : S_) (t : Nat → Int32) (T u : Nat) : Prop := σ T 3 = t (60 + 125 * u) ∧ ∀ L, t (60 + 125 * u) = nI L → L ≤ 60 → ∀ j, j < L → σ (T + 1) j = sgR t u j ∧ σ (T + 2) j = vlR t u j
def txF (t : Nat → Int32) (u : Nat) (a b c : Int32) : Int32 := if 0 < t (60 + 125 * u) then runT (sgR t u) (vlR t u) (nmF a b c) (t (60 + 125 * u)).toNatClampNeg 0 0 (fun _ => 0) else a
def growT (t : Nat → Int32) (a b c : Int32) : Int32 := heldF (txF t 0 a b c) 0 9
def payT (t : Nat → Int32) (a b c : Int32) : Int32 := heldF (txF t 1 a b c) 0 999
theorem nI_pos_iff {L : Nat} (h : L ≤ 60) : 0 < nI L ↔ 0 < L := nI_lt_iff (a := 0) (by decide) (by omega)
theorem wfT_ext {sg vl sg' vl' : Nat → Int32} : ∀ (k i n : Nat), (∀ j, i ≤ j → j < i + k → sg j = sg' j ∧ vl j = vl' j) → wfT sg vl k i n → wfT sg' vl' k i n := by
  intro k
  induction k with
  | zero => intro i n _ h; exact h
  | succ k ih =>
    intro i n hs hw
    obtain ⟨e1, e2⟩ := hs i (Nat.le_refl _) (by omega)
    have hs' : ∀ j, i + 1 ≤ j → j < i + 1 + k → sg j = sg' j ∧ vl j = vl' j := fun j h1 h2 => hs j (by omega) (by omega)
    simp only [wfT] at hw ⊢
    rw [← e1, ← e2]
    by_cases c1 : sg i = 1
    · simp only [if_pos c1] at hw ⊢; exact ih _ _ hs' hw
    · simp only [if_neg c1] at hw ⊢
      by_cases c2 : sg i = 2
      · simp only [if_pos c2] at hw ⊢; exact ⟨hw.1, ih _ _ hs' hw.2⟩
      · simp only [if_neg c2] at hw ⊢
        by_cases c3 : sg i = 33
        · simp only [if_pos c3] at hw ⊢; exact ⟨hw.1, ih _ _ hs' hw.2⟩
        · simp only [if_neg c3] at hw ⊢; exact ⟨hw.1, hw.2.1, ih _ _ hs' hw.2.2⟩
theorem txF_of {t : Nat → Int32} {u L : Nat} {a b c : Int32} (h60 : L ≤ 60) (hL : t (60 + 125 * u) = nI L) (hp : 0 < L) (hw : wfT (sgR t u) (vlR t u) L 0 0) (f : Nat → Int32) : runT (sgR t u) (vlR t u) (nmF a b c) L 0 0 f = txF t u a b c := by
  unfold txF
  rw [hL, if_pos ((nI_pos_iff h60).mpr hp), nI_clamp (by omega)]
  exact runT_ext L 0 0 _ _ (fun j _ _ => ⟨rfl, rfl⟩) (fun j hj => absurd hj (by omega)) hw
theorem txF_no {t : Nat → Int32} {u : Nat} {a b c : Int32} (h : ¬ 0 < t (60 + 125 * u)) : txF t u a b c = a := if_neg h
theorem held_mm {v m : Int32} (hm : 0 ≤ m) : (if (0 : Int32) < (if v < m then v else m) then (if v < m then v else m) else 0) = heldF v 0 m := by
  unfold heldF; grind
theorem mm_held {v m : Int32} (hm : 0 ≤ m) : (if (0 : Int32) < (if m < v then m else v) then (if m < v then m else v) else 0) = heldF v 0 m := by
  unfold heldF; grind
theorem lkm_X1_28 : Cond.methodLink RX1 28 Lib.Math.min.name ∈ lw_g := mw 511 _ (by decide +kernel) rfl
theorem lkm_X1_34 : Cond.methodLink RX1 34 Lib.Math.max.name ∈ lw_g := mw 512 _ (by decide +kernel) rfl
theorem lkm_X4_60 : Cond.methodLink RX4 60 Lib.Math.min.name ∈ lw_g := mw 696 _ (by decide +kernel) rfl
theorem lkm_X6_85 : Cond.methodLink RX6 85 Lib.Math.min.name ∈ lw_g := mw 403 _ (by decide +kernel) rfl
theorem lkm_X6_91 : Cond.methodLink RX6 91 Lib.Math.max.name ∈ lw_g := mw 406 _ (by decide +kernel) rfl
theorem lkm_X7_231 : Cond.methodLink RX7 231 Lib.Math.max.name ∈ lw_g := mw 757 _ (by decide +kernel) rfl
theorem lkm_X7_290 : Cond.methodLink RX7 290 Lib.Math.min.name ∈ lw_g := mw 857 _ (by decide +kernel) rfl
theorem lkm_J1_92 : Cond.methodLink RJ1 92 Lib.Math.max.name ∈ lw_g := mw 564 _ (by decide +kernel) rfl
theorem lkm_J1_38 : Cond.methodLink RJ1 38 Lib.Math.min.name ∈ lw_g := mw 565 _ (by decide +kernel) rfl
theorem ct_X8_hasText {g : GT} {σ : S_} {u : Nat} (hu : u < 2) : CT g 0 M_X8_hasText [.ref 70, .int (nI u)] σ (EQ (.int (bI (0 < σ 71 (60 + 125 * u)))) σ) := by
  refine ct_of [.ref 70, .int (nI u)] pn_X8_hasText rfl (Nat.le_of_ble_eq_true rfl) ?_
  refine j_aload_n dX8_hasText_0 (q := 1) rfl rfl ?_
  refine j_getR (r := 71) fs_X8_7 rfl rfl rfl dX8_hasText_1 (q := 4) rfl ?_
  refine j_bipush (v := 60) dX8_hasText_4 (q := 6) rfl (by decide) ?_
  refine j_bipush (v := 125) dX8_hasText_6 (q := 8) rfl (by decide) ?_
  refine j_iload_n dX8_hasText_8 (q := 9) rfl rfl ?_
  refine j_imulN (a := 125) dX8_hasText_9 (q := 10) rfl ?_
  refine j_iaddN (a := 60) dX8_hasText_10 (q := 11) rfl ?_
  refine j_ialdN rfl (by omega) dX8_hasText_11 (q := 12) rfl ?_
  refine j_if_le dX8_hasText_12 (t := 19) (by decide) (q := 15) rfl (fun c_12 => ?_) (fun c_12 => ?_)
  · skip
    refine j_iconst (v := 0) dX8_hasText_19 (q := 20) rfl (by decide) ?_
    refine j_iretz dX8_hasText_20 rfl (by decide) ?_
    exact ⟨congrArg Value.int (by unfold bI; grind), rfl⟩
  · skip
    refine j_iconst (v := 1) dX8_hasText_15 (q := 16) rfl (by decide) ?_
    refine j_goto (q := 20) dX8_hasText_16 (by decide) ?_
    refine j_iretz dX8_hasText_20 rfl (by decide) ?_
    exact ⟨congrArg Value.int (by unfold bI; grind), rfl⟩
theorem ct_X8_growthTold {g : GT} {σ : S_} {a b c : Int32} (hT : TOK (σ 71) 0) : CT g 2 M_X8_growthTold [.ref 70, .int a, .int b, .int c] σ (fun r τ => r = .int (growT (σ 71) a b c) ∧ ∀ x, x ≠ 76 → x ≠ 77 → τ x = σ x) := by
  obtain ⟨L, h60, hL, hw, hok⟩ := hT
  refine ct_of [.ref 70, .int a, .int b, .int c] pn_X8_growthTold rfl (Nat.le_of_ble_eq_true rfl) ?_
  refine j_aload_n dX8_growthTold_0 (q := 1) rfl rfl ?_
  refine j_getR (r := 76) fs_X8_25 rfl rfl rfl dX8_growthTold_1 (q := 4) rfl ?_
  refine j_bipush (v := 103) dX8_growthTold_4 (q := 6) rfl (by decide) ?_
  refine j_iload_n dX8_growthTold_6 (q := 7) rfl rfl ?_
  refine j_iastN (k := 103) rfl (by decide) dX8_growthTold_7 (q := 8) rfl ?_
  refine j_aload_n dX8_growthTold_8 (q := 9) rfl rfl ?_
  refine j_getR (r := 76) fs_X8_25 rfl rfl rfl dX8_growthTold_9 (q := 12) rfl ?_
  refine j_bipush (v := 100) dX8_growthTold_12 (q := 14) rfl (by decide) ?_
  refine j_iload_n dX8_growthTold_14 (q := 15) rfl rfl ?_
  refine j_iastN (k := 100) rfl (by decide) dX8_growthTold_15 (q := 16) rfl ?_
  refine j_aload_n dX8_growthTold_16 (q := 17) rfl rfl ?_
  refine j_getR (r := 76) fs_X8_25 rfl rfl rfl dX8_growthTold_17 (q := 20) rfl ?_
  refine j_bipush (v := 104) dX8_growthTold_20 (q := 22) rfl (by decide) ?_
  refine j_iload_n dX8_growthTold_22 (q := 23) rfl rfl ?_
  refine j_iastN (k := 104) rfl (by decide) dX8_growthTold_23 (q := 24) rfl ?_
  refine j_aload_n dX8_growthTold_24 (q := 25) rfl rfl ?_
  refine j_iconst (v := 0) dX8_growthTold_25 (q := 26) rfl (by decide) ?_
  refine j_callVi1E (M' := M_X8_hasText) lk_X8_116 mv_X8_hasText ob_70 (by decide) (Nat.le_of_ble_eq_true rfl) dX8_growthTold_26 (q := 29) rfl (ct_X8_hasText (u := 0) (by decide)) ?_
  refine j_ifeqB dX8_growthTold_29 (t := 40) (by decide) (q := 32) rfl (fun c_29 => ?_) (fun c_29 => ?_)
  · skip
    have hp : 0 < L := (nI_pos_iff h60).mp (by rw [← hL]; exact c_29)
    have hN : ∀ v, nmOK 0 v → (up (up (up σ 76 103 a) 76 100 b) 76 104 c) 76 v.toNatClampNeg = nmF a b c (ixM v) := by
      intro v hv
      rcases hv with rfl | ⟨h, rfl | rfl⟩ | ⟨h, rfl | rfl⟩
      · rfl
      all_goals first | rfl | exact absurd h (by decide)
    refine j_aload_n dX8_growthTold_32 (q := 33) rfl rfl ?_
    refine j_iconst (v := 0) dX8_growthTold_33 (q := 34) rfl (by decide) ?_
    refine j_callVi1 (M' := M_X8_worked) lk_X8_127 mv_X8_worked ob_70 (by decide) (Nat.le_of_ble_eq_true rfl) dX8_growthTold_34 (q := 37) rfl (ct_X8_worked (u := 0) (L := L) (a := a) (b := b) (c := c) (by decide) h60 hL (hw hp) hok hN) ?_
    intro x1 τ1 hz
    obtain ⟨h1, hτ1⟩ := hz
    cases h1
    refine j_goto (q := 41) dX8_growthTold_37 (by decide) ?_
    refine j_iconst (v := 0) dX8_growthTold_41 (q := 42) rfl (by decide) ?_
    refine j_bipush (v := 9) dX8_growthTold_42 (q := 44) rfl (by decide) ?_
    refine j_callSi3E (M' := M_X8_held) lk_X8_130 ms_X8_held (by decide) (Nat.le_of_ble_eq_true rfl) dX8_growthTold_44 (q := 47) rfl (ct_X8_held) ?_
    refine j_ireti dX8_growthTold_47 rfl ?_
    exact ⟨congrArg Value.int (by unfold growT; rw [← txF_of h60 hL hp (hw hp) ((up (up (up σ 76 103 a) 76 100 b) 76 104 c) 77)]; rfl), fun x h1 h2 => by rw [hτ1 x h2]; rw [up_row h1, up_row h1, up_row h1]⟩
  · skip
    refine j_iload_n dX8_growthTold_40 (q := 41) rfl rfl ?_
    refine j_iconst (v := 0) dX8_growthTold_41 (q := 42) rfl (by decide) ?_
    refine j_bipush (v := 9) dX8_growthTold_42 (q := 44) rfl (by decide) ?_
    refine j_callSi3E (M' := M_X8_held) lk_X8_130 ms_X8_held (by decide) (Nat.le_of_ble_eq_true rfl) dX8_growthTold_44 (q := 47) rfl (ct_X8_held) ?_
    refine j_ireti dX8_growthTold_47 rfl ?_
    exact ⟨congrArg Value.int (by unfold growT; rw [txF_no (t := σ 71) c_29]), fun x h1 h2 => by rw [up_row h1, up_row h1, up_row h1]⟩
theorem ct_X8_payTold {g : GT} {σ : S_} {a b c : Int32} (hT : TOK (σ 71) 1) : CT g 2 M_X8_payTold [.ref 70, .int a, .int b, .int c] σ (fun r τ => r = .int (payT (σ 71) a b c) ∧ ∀ x, x ≠ 76 → x ≠ 77 → τ x = σ x) := by
  obtain ⟨L, h60, hL, hw, hok⟩ := hT
  refine ct_of [.ref 70, .int a, .int b, .int c] pn_X8_payTold rfl (Nat.le_of_ble_eq_true rfl) ?_
  refine j_aload_n dX8_payTold_0 (q := 1) rfl rfl ?_
  refine j_getR (r := 76) fs_X8_25 rfl rfl rfl dX8_payTold_1 (q := 4) rfl ?_
  refine j_bipush (v := 112) dX8_payTold_4 (q := 6) rfl (by decide) ?_
  refine j_iload_n dX8_payTold_6 (q := 7) rfl rfl ?_
  refine j_iastN (k := 112) rfl (by decide) dX8_payTold_7 (q := 8) rfl ?_
  refine j_aload_n dX8_payTold_8 (q := 9) rfl rfl ?_
  refine j_getR (r := 76) fs_X8_25 rfl rfl rfl dX8_payTold_9 (q := 12) rfl ?_
  refine j_bipush (v := 100) dX8_payTold_12 (q := 14) rfl (by decide) ?_
  refine j_iload_n dX8_payTold_14 (q := 15) rfl rfl ?_
  refine j_iastN (k := 100) rfl (by decide) dX8_payTold_15 (q := 16) rfl ?_
  refine j_aload_n dX8_payTold_16 (q := 17) rfl rfl ?_
  refine j_getR (r := 76) fs_X8_25 rfl rfl rfl dX8_payTold_17 (q := 20) rfl ?_
  refine j_bipush (v := 115) dX8_payTold_20 (q := 22) rfl (by decide) ?_
  refine j_iload_n dX8_payTold_22 (q := 23) rfl rfl ?_
  refine j_iastN (k := 115) rfl (by decide) dX8_payTold_23 (q := 24) rfl ?_
  refine j_aload_n dX8_payTold_24 (q := 25) rfl rfl ?_
  refine j_iconst (v := 1) dX8_payTold_25 (q := 26) rfl (by decide) ?_
  refine j_callVi1E (M' := M_X8_hasText) lk_X8_116 mv_X8_hasText ob_70 (by decide) (Nat.le_of_ble_eq_true rfl) dX8_payTold_26 (q := 29) rfl (ct_X8_hasText (u := 1) (by decide)) ?_
  refine j_ifeqB dX8_payTold_29 (t := 40) (by decide) (q := 32) rfl (fun c_29 => ?_) (fun c_29 => ?_)
  · skip
    have hp : 0 < L := (nI_pos_iff h60).mp (by rw [← hL]; exact c_29)
    have hN : ∀ v, nmOK 1 v → (up (up (up σ 76 112 a) 76 100 b) 76 115 c) 76 v.toNatClampNeg = nmF a b c (ixM v) := by
      intro v hv
      rcases hv with rfl | ⟨h, rfl | rfl⟩ | ⟨h, rfl | rfl⟩
      · rfl
      all_goals first | rfl | exact absurd h (by decide)
    refine j_aload_n dX8_payTold_32 (q := 33) rfl rfl ?_
    refine j_iconst (v := 1) dX8_payTold_33 (q := 34) rfl (by decide) ?_
    refine j_callVi1 (M' := M_X8_worked) lk_X8_127 mv_X8_worked ob_70 (by decide) (Nat.le_of_ble_eq_true rfl) dX8_payTold_34 (q := 37) rfl (ct_X8_worked (u := 1) (L := L) (a := a) (b := b) (c := c) (by decide) h60 hL (hw hp) hok hN) ?_
    intro x1 τ1 hz
    obtain ⟨h1, hτ1⟩ := hz
    cases h1
    refine j_goto (q := 41) dX8_payTold_37 (by decide) ?_
    refine j_iconst (v := 0) dX8_payTold_41 (q := 42) rfl (by decide) ?_
    refine j_sipush (v := 999) dX8_payTold_42 (q := 45) rfl (by decide) ?_
    refine j_callSi3E (M' := M_X8_held) lk_X8_130 ms_X8_held (by decide) (Nat.le_of_ble_eq_true rfl) dX8_payTold_45 (q := 48) rfl (ct_X8_held) ?_
    refine j_ireti dX8_payTold_48 rfl ?_
    exact ⟨congrArg Value.int (by unfold payT; rw [← txF_of h60 hL hp (hw hp) ((up (up (up σ 76 112 a) 76 100 b) 76 115 c) 77)]; rfl), fun x h1 h2 => by rw [hτ1 x h2]; rw [up_row h1, up_row h1, up_row h1]⟩
  · skip
    refine j_iload_n dX8_payTold_40 (q := 41) rfl rfl ?_
    refine j_iconst (v := 0) dX8_payTold_41 (q := 42) rfl (by decide) ?_
    refine j_sipush (v := 999) dX8_payTold_42 (q := 45) rfl (by decide) ?_
    refine j_callSi3E (M' := M_X8_held) lk_X8_130 ms_X8_held (by decide) (Nat.le_of_ble_eq_true rfl) dX8_payTold_45 (q := 48) rfl (ct_X8_held) ?_
    refine j_ireti dX8_payTold_48 rfl ?_
    exact ⟨congrArg Value.int (by unfold payT; rw [txF_no (t := σ 71) c_29]), fun x h1 h2 => by rw [up_row h1, up_row h1, up_row h1]⟩
theorem ct_X8_growthOf {g : GT} {σ : S_} {f : Nat} (hf : f < 7) (hT : TOK (σ 71) 0) : CT g 3 M_X8_growthOf [.ref 70, .int (nI f)] σ (fun r τ => r = .int (growT (σ 71) (growF (σ 71 (10 + 6 * f)) (σ 71 (10 + 6 * f + 1)) (σ 71 (10 + 6 * f + 3)) (σ 71 0)) (σ 71 (10 + 6 * f + 4)) (remF (σ 71 0) 24)) ∧ ∀ x, x ≠ 76 → x ≠ 77 → τ x = σ x) := by
  refine ct_of [.ref 70, .int (nI f)] pn_X8_growthOf rfl (Nat.le_of_ble_eq_true rfl) ?_
  refine j_aload_n dX8_growthOf_0 (q := 1) rfl rfl ?_
  refine j_aload_n dX8_growthOf_1 (q := 2) rfl rfl ?_
  refine j_iload_n dX8_growthOf_2 (q := 3) rfl rfl ?_
  refine j_callVi1E (M' := M_X8_growsOf) lk_X8_133 mv_X8_growsOf ob_70 (by decide) (Nat.le_of_ble_eq_true rfl) dX8_growthOf_3 (q := 6) rfl (ct_X8_growsOf hf) ?_
  refine j_aload_n dX8_growthOf_6 (q := 7) rfl rfl ?_
  refine j_iload_n dX8_growthOf_7 (q := 8) rfl rfl ?_
  refine j_iconst (v := 4) dX8_growthOf_8 (q := 9) rfl (by decide) ?_
  refine j_callVi2E (M' := M_X8_its) lk_X8_123 mv_X8_its ob_70 (by decide) (Nat.le_of_ble_eq_true rfl) dX8_growthOf_9 (q := 12) rfl (ct_X8_its (k := 4) hf (by decide)) ?_
  refine j_aload_n dX8_growthOf_12 (q := 13) rfl rfl ?_
  refine j_getR (r := 71) fs_X8_7 rfl rfl rfl dX8_growthOf_13 (q := 16) rfl ?_
  refine j_iconst (v := 0) dX8_growthOf_16 (q := 17) rfl (by decide) ?_
  refine j_ialdN (k := 0) rfl (by decide) dX8_growthOf_17 (q := 18) rfl ?_
  refine j_bipush (v := 24) dX8_growthOf_18 (q := 20) rfl (by decide) ?_
  refine j_irem dX8_growthOf_20 (q := 21) rfl (by decide) ?_
  refine j_callVi3 (M' := M_X8_growthTold) lk_X8_136 mv_X8_growthTold ob_70 (by decide) (Nat.le_of_ble_eq_true rfl) dX8_growthOf_21 (q := 24) rfl (ct_X8_growthTold hT) ?_
  intro x1 τ1 hz
  refine j_ireti dX8_growthOf_24 rfl ?_
  exact hz
theorem ct_X8_payOf {g : GT} {σ : S_} {f : Nat} (hf : f < 7) (hT : TOK (σ 71) 1) : CT g 3 M_X8_payOf [.ref 70, .int (nI f)] σ (fun r τ => r = .int (payT (σ 71) (paysF (σ 71 (10 + 6 * f)) (σ 71 (10 + 6 * f + 3)) (σ 71 (10 + 6 * f + 4) + σ 71 (10 + 6 * f + 2))) (σ 71 (10 + 6 * f + 4)) (σ 71 (10 + 6 * f + 2))) ∧ ∀ x, x ≠ 76 → x ≠ 77 → τ x = σ x) := by
  refine ct_of [.ref 70, .int (nI f)] pn_X8_payOf rfl (Nat.le_of_ble_eq_true rfl) ?_
  refine j_aload_n dX8_payOf_0 (q := 1) rfl rfl ?_
  refine j_aload_n dX8_payOf_1 (q := 2) rfl rfl ?_
  refine j_iload_n dX8_payOf_2 (q := 3) rfl rfl ?_
  refine j_callVi1E (M' := M_X8_paysOf) lk_X8_139 mv_X8_paysOf ob_70 (by decide) (Nat.le_of_ble_eq_true rfl) dX8_payOf_3 (q := 6) rfl (ct_X8_paysOf hf) ?_
  refine j_aload_n dX8_payOf_6 (q := 7) rfl rfl ?_
  refine j_iload_n dX8_payOf_7 (q := 8) rfl rfl ?_
  refine j_iconst (v := 4) dX8_payOf_8 (q := 9) rfl (by decide) ?_
  refine j_callVi2E (M' := M_X8_its) lk_X8_123 mv_X8_its ob_70 (by decide) (Nat.le_of_ble_eq_true rfl) dX8_payOf_9 (q := 12) rfl (ct_X8_its (k := 4) hf (by decide)) ?_
  refine j_aload_n dX8_payOf_12 (q := 13) rfl rfl ?_
  refine j_iload_n dX8_payOf_13 (q := 14) rfl rfl ?_
  refine j_iconst (v := 2) dX8_payOf_14 (q := 15) rfl (by decide) ?_
  refine j_callVi2E (M' := M_X8_its) lk_X8_123 mv_X8_its ob_70 (by decide) (Nat.le_of_ble_eq_true rfl) dX8_payOf_15 (q := 18) rfl (ct_X8_its (k := 2) hf (by decide)) ?_
  refine j_callVi3 (M' := M_X8_payTold) lk_X8_142 mv_X8_payTold ob_70 (by decide) (Nat.le_of_ble_eq_true rfl) dX8_payOf_18 (q := 21) rfl (ct_X8_payTold hT) ?_
  intro x1 τ1 hz
  refine j_ireti dX8_payOf_21 rfl ?_
  exact hz
theorem ct_X6_given0 {g : GT} {σ : S_} {t : Nat → Int32} {a b c : Int32} (hT : TOK t 0) (hR : TXR σ t 23 0) : CT g 2 M_X6_given [.ref 8, .int 0, .int a, .int b, .int c] σ (fun r τ => r = .int (growT t a b c) ∧ ∀ x, x ≠ 26 → τ x = σ x) := by
  obtain ⟨L, h60, hL, hw, hok⟩ := hT
  obtain ⟨hR1, hR2⟩ := hR
  have hsv := hR2 L hL h60
  have hRL : σ 23 3 = nI L := hR1.trans hL
  refine ct_of [.ref 8, .int 0, .int a, .int b, .int c, .null, .null] pn_X6_given rfl (Nat.le_of_ble_eq_true rfl) ?_
  refine j_iload_n dX6_given_0 (q := 1) rfl rfl ?_
  refine j_if_ne dX6_given_1 (t := 9) (by decide) (q := 4) rfl (fun c_1 => ?_) (fun c_1 => ?_)
  · skip
    exact absurd c_1 (by decide)
  · skip
    refine j_bipush (v := 9) dX6_given_4 (q := 6) rfl (by decide) ?_
    refine j_goto (q := 12) dX6_given_6 (by decide) ?_
    refine j_istore_7_5 dX6_given_12 (q := 14) rfl rfl rfl ?_
    refine j_aload_n dX6_given_14 (q := 15) rfl rfl ?_
    refine j_getR (r := 14) fs_X6_37 rfl rfl rfl dX6_given_15 (q := 18) rfl ?_
    refine j_iload_n dX6_given_18 (q := 19) rfl rfl ?_
    refine j_aaldN (k := 0) rfl (by decide) rfl dX6_given_19 (q := 20) rfl ?_
    refine j_callVi0E (M' := M_X3_isThere) lk_X6_77 mv_X3_isThere ob_23 (by decide) (Nat.le_of_ble_eq_true rfl) dX6_given_20 (q := 23) rfl (ct_X3_isThere (t := 23) (.inl rfl)) ?_
    refine j_ifeqB dX6_given_23 (t := 42) (by decide) (q := 26) rfl (fun c_23 => ?_) (fun c_23 => ?_)
    · skip
      have hp : 0 < L := (nI_pos_iff h60).mp (by rw [← hRL]; exact c_23)
      have hwc : wfT (σ (23 + 1)) (σ (23 + 2)) L 0 0 := wfT_ext L 0 0 (fun j _ h => ⟨(hsv j (by omega)).1.symm, (hsv j (by omega)).2.symm⟩) (hw hp)
      refine j_aload_n dX6_given_26 (q := 27) rfl rfl ?_
      refine j_getR (r := 14) fs_X6_37 rfl rfl rfl dX6_given_27 (q := 30) rfl ?_
      refine j_iload_n dX6_given_30 (q := 31) rfl rfl ?_
      refine j_aaldN (k := 0) rfl (by decide) rfl dX6_given_31 (q := 32) rfl ?_
      refine j_iload_n dX6_given_32 (q := 33) rfl rfl ?_
      refine j_iload_n dX6_given_33 (q := 34) rfl rfl ?_
      refine j_iload dX6_given_34 (q := 36) rfl rfl ?_
      refine j_callVi3 (M' := M_X3_workedOut) lk_X6_81 mv_X3_workedOut ob_23 (by decide) (Nat.le_of_ble_eq_true rfl) dX6_given_36 (q := 39) rfl (ct_X3_workedOut (t := 23) (L := L) (.inl rfl) h60 hRL hwc) ?_
      intro x1 τ1 hz
      obtain ⟨h1, hτ1⟩ := hz
      cases h1
      refine j_goto (q := 43) dX6_given_39 (by decide) ?_
      refine j_istore_7_6 dX6_given_43 (q := 45) rfl rfl rfl ?_
      refine j_iconst (v := 0) dX6_given_45 (q := 46) rfl (by decide) ?_
      refine j_iload dX6_given_46 (q := 48) rfl rfl ?_
      refine j_iload dX6_given_48 (q := 50) rfl rfl ?_
      refine j_mmin lkm_X6_85 ma_min_s ma_i ma_min_c (by decide) (Nat.le_of_ble_eq_true rfl) dX6_given_50 (q := 53) rfl ?_
      refine j_mmax lkm_X6_91 ma_max_s ma_i ma_max_c (by decide) (Nat.le_of_ble_eq_true rfl) dX6_given_53 (q := 56) rfl ?_
      refine j_ireti dX6_given_56 rfl ?_
      refine ⟨congrArg Value.int ?_, hτ1⟩
      rw [held_mm (m := 9) (by decide)]
      unfold growT
      rw [← txF_of h60 hL hp (hw hp) (σ (23 + 3)), ← runT_ext L 0 0 _ _ (fun j _ h => ⟨(hsv j (by omega)).1, (hsv j (by omega)).2⟩) (fun j hj => absurd hj (by omega)) hwc]
    · skip
      refine j_iload_n dX6_given_42 (q := 43) rfl rfl ?_
      refine j_istore_7_6 dX6_given_43 (q := 45) rfl rfl rfl ?_
      refine j_iconst (v := 0) dX6_given_45 (q := 46) rfl (by decide) ?_
      refine j_iload dX6_given_46 (q := 48) rfl rfl ?_
      refine j_iload dX6_given_48 (q := 50) rfl rfl ?_
      refine j_mmin lkm_X6_85 ma_min_s ma_i ma_min_c (by decide) (Nat.le_of_ble_eq_true rfl) dX6_given_50 (q := 53) rfl ?_
      refine j_mmax lkm_X6_91 ma_max_s ma_i ma_max_c (by decide) (Nat.le_of_ble_eq_true rfl) dX6_given_53 (q := 56) rfl ?_
      refine j_ireti dX6_given_56 rfl ?_
      refine ⟨congrArg Value.int ?_, fun _ _ => rfl⟩
      rw [held_mm (m := 9) (by decide)]
      unfold growT
      rw [txF_no (by rw [← hR1]; exact c_23)]
theorem ct_X6_given1 {g : GT} {σ : S_} {t : Nat → Int32} {a b c : Int32} (hT : TOK t 1) (hR : TXR σ t 27 1) : CT g 2 M_X6_given [.ref 8, .int 1, .int a, .int b, .int c] σ (fun r τ => r = .int (payT t a b c) ∧ ∀ x, x ≠ 30 → τ x = σ x) := by
  obtain ⟨L, h60, hL, hw, hok⟩ := hT
  obtain ⟨hR1, hR2⟩ := hR
  have hsv := hR2 L hL h60
  have hRL : σ 27 3 = nI L := hR1.trans hL
  refine ct_of [.ref 8, .int 1, .int a, .int b, .int c, .null, .null] pn_X6_given rfl (Nat.le_of_ble_eq_true rfl) ?_
  refine j_iload_n dX6_given_0 (q := 1) rfl rfl ?_
  refine j_if_ne dX6_given_1 (t := 9) (by decide) (q := 4) rfl (fun c_1 => ?_) (fun c_1 => ?_)
  · skip
    refine j_sipush (v := 999) dX6_given_9 (q := 12) rfl (by decide) ?_
    refine j_istore_7_5 dX6_given_12 (q := 14) rfl rfl rfl ?_
    refine j_aload_n dX6_given_14 (q := 15) rfl rfl ?_
    refine j_getR (r := 14) fs_X6_37 rfl rfl rfl dX6_given_15 (q := 18) rfl ?_
    refine j_iload_n dX6_given_18 (q := 19) rfl rfl ?_
    refine j_aaldN (k := 1) rfl (by decide) rfl dX6_given_19 (q := 20) rfl ?_
    refine j_callVi0E (M' := M_X3_isThere) lk_X6_77 mv_X3_isThere ob_27 (by decide) (Nat.le_of_ble_eq_true rfl) dX6_given_20 (q := 23) rfl (ct_X3_isThere (t := 27) (.inr (.inl rfl))) ?_
    refine j_ifeqB dX6_given_23 (t := 42) (by decide) (q := 26) rfl (fun c_23 => ?_) (fun c_23 => ?_)
    · skip
      have hp : 0 < L := (nI_pos_iff h60).mp (by rw [← hRL]; exact c_23)
      have hwc : wfT (σ (27 + 1)) (σ (27 + 2)) L 0 0 := wfT_ext L 0 0 (fun j _ h => ⟨(hsv j (by omega)).1.symm, (hsv j (by omega)).2.symm⟩) (hw hp)
      refine j_aload_n dX6_given_26 (q := 27) rfl rfl ?_
      refine j_getR (r := 14) fs_X6_37 rfl rfl rfl dX6_given_27 (q := 30) rfl ?_
      refine j_iload_n dX6_given_30 (q := 31) rfl rfl ?_
      refine j_aaldN (k := 1) rfl (by decide) rfl dX6_given_31 (q := 32) rfl ?_
      refine j_iload_n dX6_given_32 (q := 33) rfl rfl ?_
      refine j_iload_n dX6_given_33 (q := 34) rfl rfl ?_
      refine j_iload dX6_given_34 (q := 36) rfl rfl ?_
      refine j_callVi3 (M' := M_X3_workedOut) lk_X6_81 mv_X3_workedOut ob_27 (by decide) (Nat.le_of_ble_eq_true rfl) dX6_given_36 (q := 39) rfl (ct_X3_workedOut (t := 27) (L := L) (.inr (.inl rfl)) h60 hRL hwc) ?_
      intro x1 τ1 hz
      obtain ⟨h1, hτ1⟩ := hz
      cases h1
      refine j_goto (q := 43) dX6_given_39 (by decide) ?_
      refine j_istore_7_6 dX6_given_43 (q := 45) rfl rfl rfl ?_
      refine j_iconst (v := 0) dX6_given_45 (q := 46) rfl (by decide) ?_
      refine j_iload dX6_given_46 (q := 48) rfl rfl ?_
      refine j_iload dX6_given_48 (q := 50) rfl rfl ?_
      refine j_mmin lkm_X6_85 ma_min_s ma_i ma_min_c (by decide) (Nat.le_of_ble_eq_true rfl) dX6_given_50 (q := 53) rfl ?_
      refine j_mmax lkm_X6_91 ma_max_s ma_i ma_max_c (by decide) (Nat.le_of_ble_eq_true rfl) dX6_given_53 (q := 56) rfl ?_
      refine j_ireti dX6_given_56 rfl ?_
      refine ⟨congrArg Value.int ?_, hτ1⟩
      rw [held_mm (m := 999) (by decide)]
      unfold payT
      rw [← txF_of h60 hL hp (hw hp) (σ (27 + 3)), ← runT_ext L 0 0 _ _ (fun j _ h => ⟨(hsv j (by omega)).1, (hsv j (by omega)).2⟩) (fun j hj => absurd hj (by omega)) hwc]
    · skip
      refine j_iload_n dX6_given_42 (q := 43) rfl rfl ?_
      refine j_istore_7_6 dX6_given_43 (q := 45) rfl rfl rfl ?_
      refine j_iconst (v := 0) dX6_given_45 (q := 46) rfl (by decide) ?_
      refine j_iload dX6_given_46 (q := 48) rfl rfl ?_
      refine j_iload dX6_given_48 (q := 50) rfl rfl ?_
      refine j_mmin lkm_X6_85 ma_min_s ma_i ma_min_c (by decide) (Nat.le_of_ble_eq_true rfl) dX6_given_50 (q := 53) rfl ?_
      refine j_mmax lkm_X6_91 ma_max_s ma_i ma_max_c (by decide) (Nat.le_of_ble_eq_true rfl) dX6_given_53 (q := 56) rfl ?_
      refine j_ireti dX6_given_56 rfl ?_
      refine ⟨congrArg Value.int ?_, fun _ _ => rfl⟩
      rw [held_mm (m := 999) (by decide)]
      unfold payT
      rw [txF_no (by rw [← hR1]; exact c_23)]
  · skip
    exact absurd c_1 (by decide)
theorem ct_X6_growthOf {g : GT} {σ : S_} {t : Nat → Int32} {a : Nat} {y h : Int32} (ha : tC[a]? = some (3, 0)) (hT : TOK t 0) (hR : TXR σ t 23 0) : CT g 3 M_X6_growthOf [.ref 8, .ref a, .int y, .int h] σ (fun r τ => r = .int (growT t (growF (σ a 0) (σ a 1) (σ a 3) h) y (remF h 24)) ∧ ∀ x, x ≠ 26 → τ x = σ x) := by
  refine ct_of [.ref 8, .ref a, .int y, .int h] pn_X6_growthOf rfl (Nat.le_of_ble_eq_true rfl) ?_
  refine j_aload_n dX6_growthOf_0 (q := 1) rfl rfl ?_
  refine j_iconst (v := 0) dX6_growthOf_1 (q := 2) rfl (by decide) ?_
  refine j_aload_n dX6_growthOf_2 (q := 3) rfl rfl ?_
  refine j_iload_n dX6_growthOf_3 (q := 4) rfl rfl ?_
  refine j_callVi1E (M' := M_X0_grows) lk_X6_94 mv_X0_grows (ob_of ha rfl) (by decide) (Nat.le_of_ble_eq_true rfl) dX6_growthOf_4 (q := 7) rfl (ct_X0_grows ha) ?_
  refine j_iload_n dX6_growthOf_7 (q := 8) rfl rfl ?_
  refine j_iload_n dX6_growthOf_8 (q := 9) rfl rfl ?_
  refine j_bipush (v := 24) dX6_growthOf_9 (q := 11) rfl (by decide) ?_
  refine j_irem dX6_growthOf_11 (q := 12) rfl (by decide) ?_
  refine j_callVi4 (M' := M_X6_given) lk_X6_98 mv_X6_given ob_8 (by decide) (Nat.le_of_ble_eq_true rfl) dX6_growthOf_12 (q := 15) rfl (ct_X6_given0 hT hR) ?_
  intro x1 τ1 hz
  refine j_ireti dX6_growthOf_15 rfl ?_
  exact hz
theorem ct_X6_payOf {g : GT} {σ : S_} {t : Nat → Int32} {a : Nat} (ha : tC[a]? = some (3, 0)) (hT : TOK t 1) (hR : TXR σ t 27 1) : CT g 3 M_X6_payOf [.ref 8, .ref a] σ (fun r τ => r = .int (payT t (paysF (σ a 0) (σ a 3) (σ a 4 + σ a 2)) (σ a 4) (σ a 2)) ∧ ∀ x, x ≠ 30 → τ x = σ x) := by
  refine ct_of [.ref 8, .ref a] pn_X6_payOf rfl (Nat.le_of_ble_eq_true rfl) ?_
  refine j_aload_n dX6_payOf_0 (q := 1) rfl rfl ?_
  refine j_iconst (v := 1) dX6_payOf_1 (q := 2) rfl (by decide) ?_
  refine j_aload_n dX6_payOf_2 (q := 3) rfl rfl ?_
  refine j_callVi0E (M' := M_X0_pays) lk_X6_102 mv_X0_pays (ob_of ha rfl) (by decide) (Nat.le_of_ble_eq_true rfl) dX6_payOf_3 (q := 6) rfl (ct_X0_pays ha) ?_
  refine j_aload_n dX6_payOf_6 (q := 7) rfl rfl ?_
  refine j_getI fs_X6_106 ha rfl dX6_payOf_7 (q := 10) rfl ?_
  refine j_aload_n dX6_payOf_10 (q := 11) rfl rfl ?_
  refine j_getI fs_X6_109 ha rfl dX6_payOf_11 (q := 14) rfl ?_
  refine j_callVi4 (M' := M_X6_given) lk_X6_98 mv_X6_given ob_8 (by decide) (Nat.le_of_ble_eq_true rfl) dX6_payOf_14 (q := 17) rfl (ct_X6_given1 hT hR) ?_
  intro x1 τ1 hz
  refine j_ireti dX6_payOf_17 rfl ?_
  exact hz
