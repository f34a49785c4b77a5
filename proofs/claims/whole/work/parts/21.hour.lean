theorem fstep_keep {t : Nat → Int32} {n m : Nat} (h1 : m ≠ 1) (h2 : m ≠ 10 + 6 * n + 4) : fstep t n m = t m := by
  unfold fstep; split
  · rw [upd_ne h2]
  · rw [upd_ne h2, upd_ne h1]
theorem hfarms_keep {t : Nat → Int32} {m : Nat} (h1 : m ≠ 1) : ∀ i, i ≤ 7 → (m < 10 ∨ 52 ≤ m) → hfarms t i m = t m := by
  intro i
  induction i with
  | zero => intro _ _; rfl
  | succ i ih => intro hi h; show fstep (hfarms t i) i m = t m; rw [fstep_keep h1 (by omega), ih (by omega) h]
theorem wat_keep {t : Nat → Int32} {m : Nat} : ∀ p, p ≤ 3 → (m < 7 ∨ 10 ≤ m) → wat t p m = t m := by
  intro p
  induction p with
  | zero => intro _ _; rfl
  | succ p ih => intro hp h; show upd (wat t p) (7 + p) _ m = t m; rw [upd_ne (by omega), ih (by omega) h]
theorem bw_sum {x y : Int32} (hx : bw x 99) (hy : bw y 9) : 0 ≤ x + y ∧ x + y ≤ 108 := by
  unfold bw at *; grind
theorem FB.upd {t : Nat → Int32} {n m : Nat} {v : Int32} (h : FB t n) (hm : m < 10 + 6 * n ∨ 10 + 6 * n + 6 ≤ m) : FB (upd t m v) n := by
  unfold FB
  rw [upd_ne (by omega), upd_ne (by omega), upd_ne (by omega), upd_ne (by omega), upd_ne (by omega), upd_ne (by omega)]
  exact h
theorem FB.dry {t : Nat → Int32} {n : Nat} {v : Int32} (h : FB t n) (hv : bw v 99) : FB (_root_.Jvm.Pilot.@@N@@.upd t (10 + 6 * n + 4) v) n := by
  unfold FB
  rw [upd_ne (by omega), upd_ne (by omega), upd_ne (by omega), upd_ne (by omega), upd_at, upd_ne (by omega)]
  exact ⟨h.1, h.2.1, h.2.2.1, h.2.2.2.1, hv, h.2.2.2.2.2⟩
theorem FB.eased {t : Nat → Int32} {n : Nat} {v : Int32} (h : FB t n) (hv : bw v 99999) : FB (_root_.Jvm.Pilot.@@N@@.upd t (10 + 6 * n + 5) v) n := by
  unfold FB
  rw [upd_ne (by omega), upd_ne (by omega), upd_ne (by omega), upd_ne (by omega), upd_ne (by omega), upd_at]
  exact ⟨h.1, h.2.1, h.2.2.1, h.2.2.2.1, h.2.2.2.2.1, hv⟩
/-- bounds stay where a number within its bounds is put -/
theorem BD_farm {t : Nat → Int32} (h : BD t) {n : Nat} (hn : n < 7) {k : Nat} {v : Int32} (hk : (k = 4 ∧ bw v 99) ∨ (k = 5 ∧ bw v 99999)) : BD (upd t (10 + 6 * n + k) v) := by
  obtain ⟨b1, b2, b3, b4, b6, b7, b8, b9, b10, b11⟩ := h
  refine ⟨?_, ?_, ?_, ?_, ?_, ?_, ?_, ?_, ?_, ?_⟩
  · rw [upd_ne (by omega)]; exact b1
  · rw [upd_ne (by omega)]; exact b2
  · rw [upd_ne (by omega)]; exact b3
  · rw [upd_ne (by omega)]; exact b4
  · rw [upd_ne (by omega)]; exact b6
  · intro p hp; rw [upd_ne (by omega)]; exact b7 p hp
  · intro c hc; rw [upd_ne (by omega), upd_ne (by omega)]; exact b8 c hc
  · intro j hj
    by_cases e : j = n
    · subst e
      rcases hk with ⟨rfl, hv⟩ | ⟨rfl, hv⟩
      · exact (b9 j hj).dry hv
      · exact (b9 j hj).eased hv
    · exact (b9 j hj).upd (by omega)
  · exact b10.row (fun k k1 k2 => (upd_ne (by omega)).symm)
  · exact b11.row (fun k k1 k2 => (upd_ne (by omega)).symm)
theorem BD_parched {t : Nat → Int32} (h : BD t) {v : Int32} (hv : bw v 99999) : BD (upd t 1 v) := by
  obtain ⟨b1, b2, b3, b4, b6, b7, b8, b9, b10, b11⟩ := h
  refine ⟨?_, ?_, ?_, ?_, ?_, ?_, ?_, ?_, ?_, ?_⟩
  · rw [upd_ne (by omega)]; exact b1
  · rw [upd_ne (by omega)]; exact b2
  · rw [upd_ne (by omega)]; exact b3
  · rw [upd_ne (by omega)]; exact b4
  · rw [upd_at]; exact hv
  · intro p hp; rw [upd_ne (by omega)]; exact b7 p hp
  · intro c hc; rw [upd_ne (by omega), upd_ne (by omega)]; exact b8 c hc
  · intro j hj; exact (b9 j hj).upd (by omega)
  · exact b10.row (fun k k1 k2 => (upd_ne (by omega)).symm)
  · exact b11.row (fun k k1 k2 => (upd_ne (by omega)).symm)
theorem BD_water {t : Nat → Int32} (h : BD t) {p : Nat} (hp : p < 3) {v : Int32} (hv : bw v 999) : BD (upd t (7 + p) v) := by
  obtain ⟨b1, b2, b3, b4, b6, b7, b8, b9, b10, b11⟩ := h
  refine ⟨?_, ?_, ?_, ?_, ?_, ?_, ?_, ?_, ?_, ?_⟩
  · rw [upd_ne (by omega)]; exact b1
  · rw [upd_ne (by omega)]; exact b2
  · rw [upd_ne (by omega)]; exact b3
  · rw [upd_ne (by omega)]; exact b4
  · rw [upd_ne (by omega)]; exact b6
  · intro j hj
    by_cases e : j = p
    · subst e; rw [upd_at]; exact hv
    · rw [upd_ne (by omega)]; exact b7 j hj
  · intro c hc; rw [upd_ne (by omega), upd_ne (by omega)]; exact b8 c hc
  · intro j hj; exact (b9 j hj).upd (by omega)
  · exact b10.row (fun k k1 k2 => (upd_ne (by omega)).symm)
  · exact b11.row (fun k k1 k2 => (upd_ne (by omega)).symm)
theorem BD_hour {t : Nat → Int32} (h : BD t) {v : Int32} {m : Nat} (hm : m = 0 ∨ m = 2) : BD (upd t m v) := by
  obtain ⟨b1, b2, b3, b4, b6, b7, b8, b9, b10, b11⟩ := h
  refine ⟨?_, ?_, ?_, ?_, ?_, ?_, ?_, ?_, ?_, ?_⟩
  · rw [upd_ne (by omega)]; exact b1
  · rw [upd_ne (by omega)]; exact b2
  · rw [upd_ne (by omega)]; exact b3
  · rw [upd_ne (by omega)]; exact b4
  · rw [upd_ne (by omega)]; exact b6
  · intro p hp; rw [upd_ne (by omega)]; exact b7 p hp
  · intro c hc; rw [upd_ne (by omega), upd_ne (by omega)]; exact b8 c hc
  · intro j hj; exact (b9 j hj).upd (by omega)
  · exact b10.row (fun k k1 k2 => (upd_ne (by omega)).symm)
  · exact b11.row (fun k k1 k2 => (upd_ne (by omega)).symm)
theorem BD.fb {t : Nat → Int32} (h : BD t) {n : Nat} (hn : n < 7) : FB t n := h.2.2.2.2.2.2.2.1 n hn
theorem BD.parched {t : Nat → Int32} (h : BD t) : bw (t 1) 99999 := h.2.2.2.2.1
theorem BD.water {t : Nat → Int32} (h : BD t) {p : Nat} (hp : p < 3) : bw (t (7 + p)) 999 := h.2.2.2.2.2.1 p hp
theorem BD.car {t : Nat → Int32} (h : BD t) {c : Nat} (hc : c < 4) : bw (t (52 + 2 * c)) 300 ∧ bw (t (52 + 2 * c + 1)) 99999 := h.2.2.2.2.2.2.1 c hc
theorem BD.t0 {t : Nat → Int32} (h : BD t) : TOK t 0 := h.2.2.2.2.2.2.2.2.1
theorem BD.t1 {t : Nat → Int32} (h : BD t) : TOK t 1 := h.2.2.2.2.2.2.2.2.2
theorem BD_fstep {t : Nat → Int32} (h : BD t) {n : Nat} (hn : n < 7) : BD (fstep t n) := by
  have hs := bw_sum (h.fb hn).2.2.2.2.1 (growT_bw t (growF (t (10 + 6 * n)) (t (10 + 6 * n + 1)) (t (10 + 6 * n + 3)) (t 0)) (t (10 + 6 * n + 4)) (remF (t 0) 24))
  unfold fstep
  split
  · rename_i c
    exact BD_farm h hn (Or.inl ⟨rfl, hs.1, c⟩)
  · exact BD_farm (BD_parched h (heldF_bw (by decide))) hn (Or.inl ⟨rfl, by decide, by decide⟩)
theorem BD_hfarms {t : Nat → Int32} (h : BD t) : ∀ i, i ≤ 7 → BD (hfarms t i) := by
  intro i
  induction i with
  | zero => intro _; exact h
  | succ i ih => intro hi; exact BD_fstep (ih (by omega)) (by omega)
theorem BD_wat {t : Nat → Int32} (h : BD t) : ∀ p, p ≤ 3 → BD (wat t p) := by
  intro p
  induction p with
  | zero => intro _; exact h
  | succ p ih => intro hp; exact BD_water (ih (by omega)) (by omega) (heldF_bw (by decide))
theorem BD_hourN {t : Nat → Int32} (h : BD t) {nf : Nat} (h7 : nf ≤ 7) : BD (hourN t nf) := BD_hour (BD_wat (BD_hfarms h nf h7) 3 (Nat.le_refl _)) (Or.inl rfl)
theorem min_held {x m : Int32} (h0 : 0 ≤ x) : (if x < m then x else m) = (if x < 0 then 0 else if m < x then m else x) := by grind
theorem minP {x : Int32} (h : bw x 99999) : (if x + 1 < 99999 then x + 1 else 99999) = heldF (x + 1) 0 99999 := by unfold bw at h; unfold heldF; grind
theorem minW {x : Int32} {p : Nat} (hp : p < 3) (h : bw x 999) : (if x + nI p + 1 < 999 then x + nI p + 1 else 999) = heldF (x + nI p + 1) 0 999 := by
  rcases (show p = 0 ∨ p = 1 ∨ p = 2 by omega) with rfl | rfl | rfl
  · rw [show nI 0 = 0 from rfl]; unfold bw at h; unfold heldF; grind
  · rw [show nI 1 = 1 from rfl]; unfold bw at h; unfold heldF; grind
  · rw [show nI 2 = 2 from rfl]; unfold bw at h; unfold heldF; grind
def outN (τ σ : S_) : Prop := ∀ x, x < 8 ∨ 31 ≤ x → τ x = σ x
def ZH (σ : S_) (t : Nat → Int32) : Value → S_ → Prop := fun r τ => r = .null ∧ CW τ 8 t ∧ outN τ σ
theorem CW.water {σ : S_} {t : Nat → Int32} (h : CW σ 8 t) {p : Nat} (hp : p < 3) : σ 12 p = t (7 + p) := h.at (LM_water p hp)
theorem go2 {g : GT} {a : Nat → Int32} {σ0 : S_} (hB : BD a) : ∀ (k p : Nat) (v2 : Value) (σ : S_), p + k = 3 → CW σ 8 (wat a p) → outN σ σ0 → J g 4 M_X6_goOnAnHour (ZH σ0 (upd (wat a 3) 0 (wat a 3 0 + 1))) 77 [.ref 8, .int (nI p), v2] [] σ := by
  intro k
  induction k with
  | zero =>
    intro p v2 σ hp hC hO
    refine j_iload_n dX6_goOnAnHour_77 (q := 78) rfl rfl ?_
    refine j_iconst (v := 3) dX6_goOnAnHour_78 (q := 79) rfl (by decide) ?_
    refine j_icmp_geN (b := 3) (by omega) (by omega) dX6_goOnAnHour_79 (t := 110) (by decide) (q := 82) rfl (fun c_79 => ?_) (fun c_79 => ?_)
    · skip
      rw [show p = 3 by omega] at hC
      refine j_aload_n dX6_goOnAnHour_110 (q := 111) rfl rfl ?_
      refine j_dup dX6_goOnAnHour_111 (q := 112) rfl rfl ?_
      refine j_getIV fs_X6_65 rfl rfl (hC.at LM_hour) dX6_goOnAnHour_112 (q := 115) rfl ?_
      refine j_iconst (v := 1) dX6_goOnAnHour_115 (q := 116) rfl (by decide) ?_
      refine j_iadd dX6_goOnAnHour_116 (q := 117) rfl ?_
      refine j_putI fs_X6_65 rfl rfl fp_6_6 dX6_goOnAnHour_117 (q := 120) rfl ?_
      refine j_vret dX6_goOnAnHour_120 rfl ?_
      exact ⟨rfl, CW.up hC LM_hour _, fun x hx => (up_row (by omega)).trans (hO x hx)⟩
    · skip
      omega
  | succ k ih =>
    intro p v2 σ hp hC hO
    refine j_iload_n dX6_goOnAnHour_77 (q := 78) rfl rfl ?_
    refine j_iconst (v := 3) dX6_goOnAnHour_78 (q := 79) rfl (by decide) ?_
    refine j_icmp_geN (b := 3) (by omega) (by omega) dX6_goOnAnHour_79 (t := 110) (by decide) (q := 82) rfl (fun c_79 => ?_) (fun c_79 => ?_)
    · skip
      omega
    · skip
      refine j_aload_n dX6_goOnAnHour_82 (q := 83) rfl rfl ?_
      refine j_getR (r := 12) fs_X6_24 rfl rfl rfl dX6_goOnAnHour_83 (q := 86) rfl ?_
      refine j_iload_n dX6_goOnAnHour_86 (q := 87) rfl rfl ?_
      refine j_sipush (v := 999) dX6_goOnAnHour_87 (q := 90) rfl (by decide) ?_
      refine j_aload_n dX6_goOnAnHour_90 (q := 91) rfl rfl ?_
      refine j_getR (r := 12) fs_X6_24 rfl rfl rfl dX6_goOnAnHour_91 (q := 94) rfl ?_
      refine j_iload_n dX6_goOnAnHour_94 (q := 95) rfl rfl ?_
      refine j_ialdV rfl (by omega) (hC.water (by omega)) dX6_goOnAnHour_95 (q := 96) rfl ?_
      refine j_iload_n dX6_goOnAnHour_96 (q := 97) rfl rfl ?_
      refine j_iadd dX6_goOnAnHour_97 (q := 98) rfl ?_
      refine j_iconst (v := 1) dX6_goOnAnHour_98 (q := 99) rfl (by decide) ?_
      refine j_iadd dX6_goOnAnHour_99 (q := 100) rfl ?_
      refine j_mmin lkm_X6_85 ma_min_s ma_i ma_min_c (by decide) (Nat.le_of_ble_eq_true rfl) dX6_goOnAnHour_100 (q := 103) rfl ?_
      refine j_iastN rfl (by omega) dX6_goOnAnHour_103 (q := 104) rfl ?_
      refine j_iincN_3_1 dX6_goOnAnHour_104 (q := 107) rfl rfl rfl ?_
      refine j_goto (q := 77) dX6_goOnAnHour_107 (by decide) ?_
      rw [minW (by omega) ((BD_wat hB p (by omega)).water (by omega))]
      exact ih (p + 1) _ _ (by omega) (CW.up hC (LM_water p (by omega)) _) (fun x hx => (up_row (by omega)).trans (hO x hx))
theorem fs_eq1 {t : Nat → Int32} {n : Nat} {v : Int32} (hv : dryNew t n = v) (c : v ≤ 99) : fstep t n = upd t (10 + 6 * n + 4) v := by unfold fstep; rw [hv, if_pos c]
theorem fs_eq2 {t : Nat → Int32} {n : Nat} {v : Int32} (hv : dryNew t n = v) (c : ¬ v ≤ 99) : fstep t n = upd (upd (upd t (10 + 6 * n + 4) v) (10 + 6 * n + 4) 99) 1 (heldF (t 1 + 1) 0 99999) := by
  unfold fstep
  rw [hv, if_neg c]
  funext m
  by_cases h1 : m = 1
  · subst h1; rw [upd_ne (by omega), upd_at, upd_at]
  · by_cases h2 : m = 10 + 6 * n + 4
    · subst h2; rw [upd_at, upd_ne (by omega), upd_at]
    · rw [upd_ne h2, upd_ne h1, upd_ne h1, upd_ne h2, upd_ne h2]
theorem go1 {g : GT} {t : Nat → Int32} {nf : Nat} {σ0 : S_} (hB : BD t) (hn : t 5 = nI nf) (h7 : nf ≤ 7) : ∀ (k i : Nat) (v2 : Value) (σ : S_), i + k = nf → CW σ 8 (hfarms t i) → outN σ σ0 → J g 4 M_X6_goOnAnHour (ZH σ0 (hourN t nf)) 2 [.ref 8, .int (nI i), v2] [] σ := by
  intro k
  induction k with
  | zero =>
    intro i v2 σ hik hC hO
    refine j_iload_n dX6_goOnAnHour_2 (q := 3) rfl rfl ?_
    refine j_aload_n dX6_goOnAnHour_3 (q := 4) rfl rfl ?_
    refine j_getIV fs_X6_59 rfl rfl ((hC.at LM_farms).trans ((hfarms_keep (by decide) i (by omega) (by omega)).trans hn)) dX6_goOnAnHour_4 (q := 7) rfl ?_
    refine j_icmp_geN (by omega) (by omega) dX6_goOnAnHour_7 (t := 75) (by decide) (q := 10) rfl (fun c_7 => ?_) (fun c_7 => ?_)
    · skip
      refine j_iconst (v := 0) dX6_goOnAnHour_75 (q := 76) rfl (by decide) ?_
      refine j_istore_n_3_1 dX6_goOnAnHour_76 (q := 77) rfl rfl rfl ?_
      rw [show i = nf by omega] at hC
      exact go2 (BD_hfarms hB nf h7) 3 0 _ σ rfl hC hO
    · skip
      omega
  | succ k ih =>
    intro i v2 σ hik hC hO
    refine j_iload_n dX6_goOnAnHour_2 (q := 3) rfl rfl ?_
    refine j_aload_n dX6_goOnAnHour_3 (q := 4) rfl rfl ?_
    refine j_getIV fs_X6_59 rfl rfl ((hC.at LM_farms).trans ((hfarms_keep (by decide) i (by omega) (by omega)).trans hn)) dX6_goOnAnHour_4 (q := 7) rfl ?_
    refine j_icmp_geN (by omega) (by omega) dX6_goOnAnHour_7 (t := 75) (by decide) (q := 10) rfl (fun c_7 => ?_) (fun c_7 => ?_)
    · skip
      omega
    · skip
      refine j_aload_n dX6_goOnAnHour_10 (q := 11) rfl rfl ?_
      refine j_getR (r := 9) fs_X6_11 rfl rfl rfl dX6_goOnAnHour_11 (q := 14) rfl ?_
      refine j_iload_n dX6_goOnAnHour_14 (q := 15) rfl rfl ?_
      refine j_aaldN rfl (by omega) (rf_farm (by omega)) dX6_goOnAnHour_15 (q := 16) rfl ?_
      refine j_astore_n_3_2 dX6_goOnAnHour_16 (q := 17) rfl rfl rfl ?_
      refine j_aload_n dX6_goOnAnHour_17 (q := 18) rfl rfl ?_
      refine j_dup dX6_goOnAnHour_18 (q := 19) rfl rfl ?_
      refine j_getIV fs_X6_106 (tC_farm (by omega)) rfl (hC.farm (by omega) (by decide)) dX6_goOnAnHour_19 (q := 22) rfl ?_
      refine j_aload_n dX6_goOnAnHour_22 (q := 23) rfl rfl ?_
      refine j_aload_n dX6_goOnAnHour_23 (q := 24) rfl rfl ?_
      refine j_aload_n dX6_goOnAnHour_24 (q := 25) rfl rfl ?_
      refine j_getIV fs_X6_106 (tC_farm (by omega)) rfl (hC.farm (by omega) (by decide)) dX6_goOnAnHour_25 (q := 28) rfl ?_
      refine j_aload_n dX6_goOnAnHour_28 (q := 29) rfl rfl ?_
      refine j_getIV fs_X6_65 rfl rfl (hC.at LM_hour) dX6_goOnAnHour_29 (q := 32) rfl ?_
      refine j_callVi3 (M' := M_X6_growthOf) lk_X6_137 mv_X6_growthOf ob_8 (by decide) (Nat.le_of_ble_eq_true rfl) dX6_goOnAnHour_32 (q := 35) rfl (ct_X6_growthOf (tC_farm (by omega)) (BD_hfarms hB i (by omega)).t0 hC.2.2.1) ?_
      intro x1 τ1 hz
      obtain ⟨h1, hτ1⟩ := hz
      cases h1
      have hC1 : CW τ1 8 (hfarms t i) := hC.frame (fun c h1 h2 h3 => hτ1 _ (by omega))
      rw [hC.farm (n := i) (k := 0) (by omega) (by decide), hC.farm (n := i) (k := 1) (by omega) (by decide), hC.farm (n := i) (k := 3) (by omega) (by decide)]
      have hO1 : outN τ1 σ0 := fun x hx => (hτ1 x (by omega)).trans (hO x hx)
      refine j_iadd dX6_goOnAnHour_35 (q := 36) rfl ?_
      refine j_putI fs_X6_106 (tC_farm (by omega)) rfl fp_0_4 dX6_goOnAnHour_36 (q := 39) rfl ?_
      refine j_aload_n dX6_goOnAnHour_39 (q := 40) rfl rfl ?_
      refine j_getIV fs_X6_106 (tC_farm (by omega)) rfl up_at dX6_goOnAnHour_40 (q := 43) rfl ?_
      refine j_bipush (v := 99) dX6_goOnAnHour_43 (q := 45) rfl (by decide) ?_
      refine j_icmp_le dX6_goOnAnHour_45 (t := 69) (by decide) (q := 48) rfl (fun c_45 => ?_) (fun c_45 => ?_)
      · skip
        refine j_iincN_3_1 dX6_goOnAnHour_69 (q := 72) rfl rfl rfl ?_
        refine j_goto (q := 2) dX6_goOnAnHour_72 (by decide) ?_
        refine ih (i + 1) _ _ (by omega) ?_ (fun x hx => (up_row (by omega)).trans (hO1 x hx))
        show CW _ 8 (fstep (hfarms t i) i)
        rw [fs_eq1 rfl c_45]
        exact CWupF hC1 (by omega) (by decide) _
      · skip
        refine j_aload_n dX6_goOnAnHour_48 (q := 49) rfl rfl ?_
        refine j_bipush (v := 99) dX6_goOnAnHour_49 (q := 51) rfl (by decide) ?_
        refine j_putI fs_X6_106 (tC_farm (by omega)) rfl fp_0_4 dX6_goOnAnHour_51 (q := 54) rfl ?_
        have hpar : ∀ v, (up (up τ1 (16 + i) 4 v) (16 + i) 4 99) 8 7 = hfarms t i 1 := fun v => by rw [up_nc (by omega), up_nc (by omega)]; exact hC1.at LM_parched
        refine j_aload_n dX6_goOnAnHour_54 (q := 55) rfl rfl ?_
        refine j_ldc cn_X6_122 dX6_goOnAnHour_55 (q := 57) rfl ?_
        refine j_aload_n dX6_goOnAnHour_57 (q := 58) rfl rfl ?_
        refine j_getIV fs_X6_68 rfl rfl (hpar _) dX6_goOnAnHour_58 (q := 61) rfl ?_
        refine j_iconst (v := 1) dX6_goOnAnHour_61 (q := 62) rfl (by decide) ?_
        refine j_iadd dX6_goOnAnHour_62 (q := 63) rfl ?_
        refine j_mmin lkm_X6_85 ma_min_s ma_i ma_min_c (by decide) (Nat.le_of_ble_eq_true rfl) dX6_goOnAnHour_63 (q := 66) rfl ?_
        refine j_putI fs_X6_68 rfl rfl fp_6_7 dX6_goOnAnHour_66 (q := 69) rfl ?_
        refine j_iincN_3_1 dX6_goOnAnHour_69 (q := 72) rfl rfl rfl ?_
        refine j_goto (q := 2) dX6_goOnAnHour_72 (by decide) ?_
        refine ih (i + 1) _ _ (by omega) ?_ (fun x hx => (up_row (by omega)).trans ((up_row (by omega)).trans ((up_row (by omega)).trans (hO1 x hx))))
        show CW _ 8 (fstep (hfarms t i) i)
        rw [fs_eq2 rfl c_45, ← minP (BD_hfarms hB i (by omega)).parched]
        exact CW.up (CWupF (CWupF hC1 (by omega) (by decide) _) (by omega) (by decide) _) LM_parched _
theorem ct_X6_goOnAnHour {g : GT} {σ : S_} {t : Nat → Int32} {nf : Nat} (hB : BD t) (hn : t 5 = nI nf) (h7 : nf ≤ 7) (hC : CW σ 8 t) : CT g 4 M_X6_goOnAnHour [.ref 8] σ (ZH σ (hourN t nf)) := by
  refine ct_of [.ref 8, .null, .null] pn_X6_goOnAnHour rfl (Nat.le_of_ble_eq_true rfl) ?_
  refine j_iconst (v := 0) dX6_goOnAnHour_0 (q := 1) rfl (by decide) ?_
  refine j_istore_n_3_1 dX6_goOnAnHour_1 (q := 2) rfl rfl rfl ?_
  exact go1 hB hn h7 nf 0 _ σ (by omega) hC (fun _ _ => rfl)
