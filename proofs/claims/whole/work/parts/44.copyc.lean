theorem ct_X0_copyFrom {g : GT} {σ : S_} {a b : Nat} (ha : tC[a]? = some (3, 0)) (hb : tC[b]? = some (3, 0)) (hne : b ≠ a) : CT g 0 M_X0_copyFrom [.ref a, .ref b] σ (EQ .null (up (up (up (up (up (up σ a 0 (σ b 0)) a 1 (σ b 1)) a 2 (σ b 2)) a 3 (σ b 3)) a 4 (σ b 4)) a 5 (σ b 5))) := by
  refine ct_of [.ref a, .ref b] pn_X0_copyFrom rfl (Nat.le_of_ble_eq_true rfl) ?_
  refine j_aload_n dX0_copyFrom_0 (q := 1) rfl rfl ?_
  refine j_aload_n dX0_copyFrom_1 (q := 2) rfl rfl ?_
  refine j_getIV fs_X0_28 hb rfl (show σ b 0 = σ b 0 from rfl) dX0_copyFrom_2 (q := 5) rfl ?_
  refine j_putI fs_X0_28 ha rfl fp_0_0 dX0_copyFrom_5 (q := 8) rfl ?_
  refine j_aload_n dX0_copyFrom_8 (q := 9) rfl rfl ?_
  refine j_aload_n dX0_copyFrom_9 (q := 10) rfl rfl ?_
  refine j_getIV fs_X0_31 hb rfl (show (up σ a 0 (σ b 0)) b 1 = σ b 1 from ((up_nc hne).trans (rfl))) dX0_copyFrom_10 (q := 13) rfl ?_
  refine j_putI fs_X0_31 ha rfl fp_0_1 dX0_copyFrom_13 (q := 16) rfl ?_
  refine j_aload_n dX0_copyFrom_16 (q := 17) rfl rfl ?_
  refine j_aload_n dX0_copyFrom_17 (q := 18) rfl rfl ?_
  refine j_getIV fs_X0_15 hb rfl (show (up (up σ a 0 (σ b 0)) a 1 (σ b 1)) b 2 = σ b 2 from ((up_nc hne).trans ((up_nc hne).trans (rfl)))) dX0_copyFrom_18 (q := 21) rfl ?_
  refine j_putI fs_X0_15 ha rfl fp_0_2 dX0_copyFrom_21 (q := 24) rfl ?_
  refine j_aload_n dX0_copyFrom_24 (q := 25) rfl rfl ?_
  refine j_aload_n dX0_copyFrom_25 (q := 26) rfl rfl ?_
  refine j_getIV fs_X0_19 hb rfl (show (up (up (up σ a 0 (σ b 0)) a 1 (σ b 1)) a 2 (σ b 2)) b 3 = σ b 3 from ((up_nc hne).trans ((up_nc hne).trans ((up_nc hne).trans (rfl))))) dX0_copyFrom_26 (q := 29) rfl ?_
  refine j_putI fs_X0_19 ha rfl fp_0_3 dX0_copyFrom_29 (q := 32) rfl ?_
  refine j_aload_n dX0_copyFrom_32 (q := 33) rfl rfl ?_
  refine j_aload_n dX0_copyFrom_33 (q := 34) rfl rfl ?_
  refine j_getIV fs_X0_22 hb rfl (show (up (up (up (up σ a 0 (σ b 0)) a 1 (σ b 1)) a 2 (σ b 2)) a 3 (σ b 3)) b 4 = σ b 4 from ((up_nc hne).trans ((up_nc hne).trans ((up_nc hne).trans ((up_nc hne).trans (rfl)))))) dX0_copyFrom_34 (q := 37) rfl ?_
  refine j_putI fs_X0_22 ha rfl fp_0_4 dX0_copyFrom_37 (q := 40) rfl ?_
  refine j_aload_n dX0_copyFrom_40 (q := 41) rfl rfl ?_
  refine j_aload_n dX0_copyFrom_41 (q := 42) rfl rfl ?_
  refine j_getIV fs_X0_25 hb rfl (show (up (up (up (up (up σ a 0 (σ b 0)) a 1 (σ b 1)) a 2 (σ b 2)) a 3 (σ b 3)) a 4 (σ b 4)) b 5 = σ b 5 from ((up_nc hne).trans ((up_nc hne).trans ((up_nc hne).trans ((up_nc hne).trans ((up_nc hne).trans (rfl))))))) dX0_copyFrom_42 (q := 45) rfl ?_
  refine j_putI fs_X0_25 ha rfl fp_0_5 dX0_copyFrom_45 (q := 48) rfl ?_
  refine j_vret dX0_copyFrom_48 rfl ?_
  exact ⟨rfl, rfl⟩
def fmcp (σ : S_) (a b : Nat) : S_ := (up (up (up (up (up (up σ a 0 (σ b 0)) a 1 (σ b 1)) a 2 (σ b 2)) a 3 (σ b 3)) a 4 (σ b 4)) a 5 (σ b 5))
theorem fmcp_at {σ : S_} {a b k : Nat} (hk : k < 6) : fmcp σ a b a k = σ b k := by
  rcases (show k = 0 ∨ k = 1 ∨ k = 2 ∨ k = 3 ∨ k = 4 ∨ k = 5 by omega) with rfl | rfl | rfl | rfl | rfl | rfl <;> simp [fmcp, up]
theorem fmcp_row {σ : S_} {a b x : Nat} (h : x ≠ a) : fmcp σ a b x = σ x := by
  unfold fmcp
  rw [up_row h, up_row h, up_row h, up_row h, up_row h, up_row h]
