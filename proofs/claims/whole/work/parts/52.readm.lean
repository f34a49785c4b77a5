/-- the reference is where the parser is -/
def RK (B : Nat → Nat) (L u : Nat) (σ : S_) (T : PT) : Prop := σ 70 5 = nI T.1 ∧ σ 71 3 = nI L ∧ (∀ j, j < L → σ 71 (310 + j) = nI (B j)) ∧ σ 70 7 = nI T.2.1 ∧ (∀ j, j < T.2.1 → σ 75 (2 * j) = T.2.2.1 j ∧ σ 75 (2 * j + 1) = T.2.2.2 j) ∧ σ 70 8 = nI u
def FM (σ τ : S_) : Prop := (∀ x, x ≠ 70 → x ≠ 75 → τ x = σ x) ∧ ∀ k, k ≠ 5 → k ≠ 6 → k ≠ 7 → τ 70 k = σ 70 k
theorem FM.rf {σ : S_} : FM σ σ := ⟨fun _ _ _ => rfl, fun _ _ _ _ => rfl⟩
theorem FM.tr {σ τ υ : S_} (h : FM σ τ) (h' : FM τ υ) : FM σ υ := ⟨fun x a b => (h'.1 x a b).trans (h.1 x a b), fun k a b c => (h'.2 k a b c).trans (h.2 k a b c)⟩
def PY (B : Nat → Nat) (L u : Nat) (σ : S_) (q : Bool × PT) : Value → S_ → Prop := fun r τ => r = .int (bI (q.1 = true)) ∧ RK B L u τ q.2 ∧ (q.1 = true → τ 70 6 = σ 70 6) ∧ FM σ τ
theorem FM_5 {σ : S_} {v : Int32} : FM σ (up σ 70 5 v) := ⟨fun _ a _ => up_row a, fun _ a _ _ => up_nk a⟩
theorem FM_6 {σ : S_} {v : Int32} : FM σ (up σ 70 6 v) := ⟨fun _ a _ => up_row a, fun _ _ a _ => up_nk a⟩
theorem RK_nx {B : Nat → Nat} {L u : Nat} {σ : S_} {T : PT} (h : RK B L u σ T) : RK B L u (up σ 70 5 (nI (T.1 + 1))) (pNx T) := by
  obtain ⟨h1, h2, h3, h4, h5, h6⟩ := h
  exact ⟨up_at, (up_nc (by decide)).trans h2, fun j hj => (up_nc (by decide)).trans (h3 j hj), (up_nk (by decide)).trans h4, fun j hj => ⟨(up_nc (by decide)).trans (h5 j hj).1, (up_nc (by decide)).trans (h5 j hj).2⟩, (up_nk (by decide)).trans h6⟩
theorem RK_op {B : Nat → Nat} {L u : Nat} {σ : S_} {T : PT} {v : Int32} (h : RK B L u σ T) : RK B L u (up σ 70 6 v) T := by
  obtain ⟨h1, h2, h3, h4, h5, h6⟩ := h
  exact ⟨(up_nk (by decide)).trans h1, (up_nc (by decide)).trans h2, fun j hj => (up_nc (by decide)).trans (h3 j hj), (up_nk (by decide)).trans h4, fun j hj => ⟨(up_nc (by decide)).trans (h5 j hj).1, (up_nc (by decide)).trans (h5 j hj).2⟩, (up_nk (by decide)).trans h6⟩
theorem RK_add {B : Nat → Nat} {L u : Nat} {σ : S_} {T : PT} {w v : Int32} (h : RK B L u σ T) : RK B L u (up (up (up σ 75 (2 * T.2.1) w) 75 (2 * T.2.1 + 1) v) 70 7 (nI (T.2.1 + 1))) (pAdd w v T) := by
  obtain ⟨h1, h2, h3, h4, h5, h6⟩ := h
  refine ⟨(up_nk (by decide)).trans ((up_nc (by decide)).trans ((up_nc (by decide)).trans h1)), (up_nc (by decide)).trans ((up_nc (by decide)).trans ((up_nc (by decide)).trans h2)), fun j hj => (up_nc (by decide)).trans ((up_nc (by decide)).trans ((up_nc (by decide)).trans (h3 j hj))), up_at, fun j hj => ?_, (up_nk (by decide)).trans ((up_nc (by decide)).trans ((up_nc (by decide)).trans h6))⟩
  have hj : j < T.2.1 + 1 := hj
  show up _ 70 7 _ 75 (2 * j) = upd T.2.2.1 T.2.1 w j ∧ up _ 70 7 _ 75 (2 * j + 1) = upd T.2.2.2 T.2.1 v j
  by_cases q : j = T.2.1
  · subst q
    rw [upd_at, upd_at]
    exact ⟨(up_nc (by decide)).trans ((up_nk (by omega)).trans up_at), (up_nc (by decide)).trans up_at⟩
  · rw [upd_ne q, upd_ne q]
    exact ⟨(up_nc (by decide)).trans ((up_nk (by omega)).trans ((up_nk (by omega)).trans (h5 j (by omega)).1)), (up_nc (by decide)).trans ((up_nk (by omega)).trans ((up_nk (by omega)).trans (h5 j (by omega)).2))⟩
theorem FM_add {σ : S_} {n k : Nat} {s x y : Int32} : FM σ (up (up (up σ 75 n s) 75 k x) 70 7 y) := ⟨fun _ a b => (up_row a).trans ((up_row b).trans (up_row b)), fun _ _ _ c => (up_nk c).trans ((up_nc (by decide)).trans (up_nc (by decide)))⟩
/-- what the reference sees at a place -/
def kI (B : Nat → Nat) (L a : Nat) : Int32 := if a < L then nI (B a) else -1
theorem kI_in {B : Nat → Nat} {L a : Nat} (h : a < L) : kI B L a = nI (B a) := if_pos h
theorem nI_m1 : ∀ n, n < 256 → ¬ (-1 : Int32) = nI n := by decide +kernel
theorem kI_eq {B : Nat → Nat} {L a : Nat} (hB : ∀ j, j < L → B j < 256) {c : Nat} (hc : c < 256) : kI B L a = nI c ↔ a < L ∧ B a = c := by
  unfold kI
  by_cases h : a < L
  · rw [if_pos h]
    exact ⟨fun e => ⟨h, b8_inj (hB a h) hc e⟩, fun e => by rw [e.2]⟩
  · rw [if_neg h]
    exact ⟨fun e => absurd e (nI_m1 c hc), fun e => absurd e.1 h⟩
theorem kR_4 {B : Nat → Nat} {L a : Nat} (hB : ∀ j, j < L → B j < 256) : (a < L ∧ rkB (B a) = 4) ↔ kI B L a = 42 ∨ kI B L a = 47 ∨ kI B L a = 37 := by
  rw [show (42 : Int32) = nI 42 from rfl, show (47 : Int32) = nI 47 from rfl, show (37 : Int32) = nI 37 from rfl, kI_eq hB (by decide), kI_eq hB (by decide), kI_eq hB (by decide)]
  unfold rkB
  grind
theorem kR_3 {B : Nat → Nat} {L a : Nat} (hB : ∀ j, j < L → B j < 256) : (a < L ∧ rkB (B a) = 3) ↔ kI B L a = 43 ∨ kI B L a = 45 := by
  rw [show (43 : Int32) = nI 43 from rfl, show (45 : Int32) = nI 45 from rfl, kI_eq hB (by decide), kI_eq hB (by decide)]
  unfold rkB
  grind
theorem kR_2 {B : Nat → Nat} {L a : Nat} (hB : ∀ j, j < L → B j < 256) : (a < L ∧ rkB (B a) = 2) ↔ kI B L a = 60 ∨ kI B L a = 61 ∨ kI B L a = 62 := by
  rw [show (60 : Int32) = nI 60 from rfl, show (61 : Int32) = nI 61 from rfl, show (62 : Int32) = nI 62 from rfl, kI_eq hB (by decide), kI_eq hB (by decide), kI_eq hB (by decide)]
  unfold rkB
  grind
theorem kR_1 {B : Nat → Nat} {L a : Nat} (hB : ∀ j, j < L → B j < 256) : (a < L ∧ rkB (B a) = 1) ↔ kI B L a = 38 := by
  rw [show (38 : Int32) = nI 38 from rfl, kI_eq hB (by decide)]
  unfold rkB
  grind
theorem kR_0 {B : Nat → Nat} {L a : Nat} (hB : ∀ j, j < L → B j < 256) : (a < L ∧ rkB (B a) = 0) ↔ kI B L a = 124 := by
  rw [show (124 : Int32) = nI 124 from rfl, kI_eq hB (by decide)]
  unfold rkB
  grind
theorem kI_dg {B : Nat → Nat} {L a : Nat} (hB : ∀ j, j < L → B j < 256) : (48 ≤ kI B L a ∧ kI B L a ≤ 57) ↔ a < L ∧ 48 ≤ B a ∧ B a ≤ 57 := by
  unfold kI
  by_cases h : a < L
  · rw [if_pos h, show (48 : Int32) = nI 48 from rfl, show (57 : Int32) = nI 57 from rfl, nI_le_iff (by decide) (by have := hB a h; omega), nI_le_iff (by have := hB a h; omega) (by decide)]
    exact ⟨fun e => ⟨h, e⟩, fun e => e.2⟩
  · rw [if_neg h]
    exact ⟨fun e => absurd e.1 (by decide), fun e => absurd e.1 h⟩
theorem kI_nm {B : Nat → Nat} {L a : Nat} (hB : ∀ j, j < L → B j < 256) {u : Nat} (hu : u < 2) : nmOK u (kI B L a) ↔ a < L ∧ ixQ u (B a) < 3 := by
  unfold nmOK
  rw [show (100 : Int32) = nI 100 from rfl, show (103 : Int32) = nI 103 from rfl, show (104 : Int32) = nI 104 from rfl, show (112 : Int32) = nI 112 from rfl, show (115 : Int32) = nI 115 from rfl, kI_eq hB (by decide), kI_eq hB (by decide), kI_eq hB (by decide), kI_eq hB (by decide), kI_eq hB (by decide)]
  unfold ixQ
  grind
theorem ix_nd {u n : Nat} (h : ixQ u n < 3) : ¬ (48 ≤ n ∧ n ≤ 57) := by
  unfold ixQ at h
  grind
theorem pLf_else {B : Nat → Nat} {L u : Nat} {T : PT} {z : Bool × PT} (h1 : ¬ (T.1 < L ∧ 48 ≤ B T.1 ∧ B T.1 ≤ 57)) (h2 : ¬ (T.1 < L ∧ ixQ u (B T.1) < 3)) : pLf B L u z T = if T.1 < L then z else (false, T) := by
  unfold pLf
  by_cases h : T.1 < L
  · rw [if_pos h, if_neg (fun q => h1 ⟨h, q⟩), if_neg (fun q => h2 ⟨h, q⟩), if_pos h]
  · rw [if_neg h, if_neg h]
theorem ct_rk_look {g : GT} {σ : S_} {B : Nat → Nat} {L u : Nat} {T : PT} (hL : L ≤ 60) (ha : T.1 ≤ L) (hR : RK B L u σ T) : CT g 0 M_X8_look [.ref 70] σ (EQ (.int (kI B L T.1)) σ) := by
  have hh := ct_X8_look (g := g) hR.1 hR.2.1 hL (by omega)
  have e : (if T.1 < L then σ 71 (310 + T.1) else -1) = kI B L T.1 := by
    unfold kI
    by_cases h : T.1 < L
    · rw [if_pos h, if_pos h]
      exact hR.2.2.1 T.1 h
    · rw [if_neg h, if_neg h]
  rw [e] at hh
  exact hh
theorem ct_X8_isName {g : GT} {σ : S_} {c : Int32} {u : Nat} (hu : u < 2) (h : σ 70 8 = nI u) : CT g 0 M_X8_isName [.ref 70, .int c] σ (EQ (.int (bI (c = 100 ∨ (u = 0 ∧ (c = 103 ∨ c = 104)) ∨ (u = 1 ∧ (c = 112 ∨ c = 115))))) σ) := by
  refine ct_of [.ref 70, .int c] pn_X8_isName rfl (Nat.le_of_ble_eq_true rfl) ?_
  refine j_iload_n dX8_isName_0 (q := 1) rfl rfl ?_
  refine j_bipush (v := 100) dX8_isName_1 (q := 3) rfl (by decide) ?_
  refine j_icmp_ne dX8_isName_3 (t := 8) (by decide) (q := 6) rfl (fun c_3 => ?_) (fun c_3 => ?_)
  · skip
    refine j_aload_n dX8_isName_8 (q := 9) rfl rfl ?_
    refine j_getIV fs_X8_73 rfl rfl h dX8_isName_9 (q := 12) rfl ?_
    refine j_if_neN (by omega) dX8_isName_12 (t := 35) (by decide) (q := 15) rfl (fun c_12 => ?_) (fun c_12 => ?_)
    · skip
      refine j_iload_n dX8_isName_35 (q := 36) rfl rfl ?_
      refine j_bipush (v := 112) dX8_isName_36 (q := 38) rfl (by decide) ?_
      refine j_icmp_eq dX8_isName_38 (t := 47) (by decide) (q := 41) rfl (fun c_38 => ?_) (fun c_38 => ?_)
      · skip
        refine j_iconst (v := 1) dX8_isName_47 (q := 48) rfl (by decide) ?_
        refine j_goto (q := 52) dX8_isName_48 (by decide) ?_
        refine j_iretz dX8_isName_52 rfl (by decide) ?_
        exact ⟨congrArg Value.int (by unfold bI; grind), rfl⟩
      · skip
        refine j_iload_n dX8_isName_41 (q := 42) rfl rfl ?_
        refine j_bipush (v := 115) dX8_isName_42 (q := 44) rfl (by decide) ?_
        refine j_icmp_ne dX8_isName_44 (t := 51) (by decide) (q := 47) rfl (fun c_44 => ?_) (fun c_44 => ?_)
        · skip
          refine j_iconst (v := 0) dX8_isName_51 (q := 52) rfl (by decide) ?_
          refine j_iretz dX8_isName_52 rfl (by decide) ?_
          exact ⟨congrArg Value.int (by unfold bI; grind), rfl⟩
        · skip
          refine j_iconst (v := 1) dX8_isName_47 (q := 48) rfl (by decide) ?_
          refine j_goto (q := 52) dX8_isName_48 (by decide) ?_
          refine j_iretz dX8_isName_52 rfl (by decide) ?_
          exact ⟨congrArg Value.int (by unfold bI; grind), rfl⟩
    · skip
      refine j_iload_n dX8_isName_15 (q := 16) rfl rfl ?_
      refine j_bipush (v := 103) dX8_isName_16 (q := 18) rfl (by decide) ?_
      refine j_icmp_eq dX8_isName_18 (t := 27) (by decide) (q := 21) rfl (fun c_18 => ?_) (fun c_18 => ?_)
      · skip
        refine j_iconst (v := 1) dX8_isName_27 (q := 28) rfl (by decide) ?_
        refine j_goto (q := 52) dX8_isName_28 (by decide) ?_
        refine j_iretz dX8_isName_52 rfl (by decide) ?_
        exact ⟨congrArg Value.int (by unfold bI; grind), rfl⟩
      · skip
        refine j_iload_n dX8_isName_21 (q := 22) rfl rfl ?_
        refine j_bipush (v := 104) dX8_isName_22 (q := 24) rfl (by decide) ?_
        refine j_icmp_ne dX8_isName_24 (t := 31) (by decide) (q := 27) rfl (fun c_24 => ?_) (fun c_24 => ?_)
        · skip
          refine j_iconst (v := 0) dX8_isName_31 (q := 32) rfl (by decide) ?_
          refine j_goto (q := 52) dX8_isName_32 (by decide) ?_
          refine j_iretz dX8_isName_52 rfl (by decide) ?_
          exact ⟨congrArg Value.int (by unfold bI; grind), rfl⟩
        · skip
          refine j_iconst (v := 1) dX8_isName_27 (q := 28) rfl (by decide) ?_
          refine j_goto (q := 52) dX8_isName_28 (by decide) ?_
          refine j_iretz dX8_isName_52 rfl (by decide) ?_
          exact ⟨congrArg Value.int (by unfold bI; grind), rfl⟩
  · skip
    refine j_iconst (v := 1) dX8_isName_6 (q := 7) rfl (by decide) ?_
    refine j_iretz dX8_isName_7 rfl (by decide) ?_
    exact ⟨congrArg Value.int (by unfold bI; grind), rfl⟩
theorem ct_rk_step1 {g : GT} {σ : S_} {B : Nat → Nat} {L u : Nat} {T : PT} {w v : Int32} (hR : RK B L u σ T) (hn : T.2.1 ≤ 60) : CT g 0 M_X8_step1 [.ref 70, .int w, .int v] σ (fun r τ => r = .null ∧ RK B L u τ (pAdd w v T) ∧ τ 70 6 = σ 70 6 ∧ FM σ τ) := by
  have h4 := hR.2.2.2.1
  refine ct_of [.ref 70, .int w, .int v] pn_X8_step1 rfl (Nat.le_of_ble_eq_true rfl) ?_
  refine j_aload_n dX8_step1_0 (q := 1) rfl rfl ?_
  refine j_getR (r := 75) fs_X8_22 rfl rfl rfl dX8_step1_1 (q := 4) rfl ?_
  refine j_iconst (v := 2) dX8_step1_4 (q := 5) rfl (by decide) ?_
  refine j_aload_n dX8_step1_5 (q := 6) rfl rfl ?_
  refine j_getIV fs_X8_76 rfl rfl h4 dX8_step1_6 (q := 9) rfl ?_
  refine j_imulN (a := 2) dX8_step1_9 (q := 10) rfl ?_
  refine j_iload_n dX8_step1_10 (q := 11) rfl rfl ?_
  refine j_iastN rfl (by omega) dX8_step1_11 (q := 12) rfl ?_
  refine j_aload_n dX8_step1_12 (q := 13) rfl rfl ?_
  refine j_getR (r := 75) fs_X8_22 rfl rfl rfl dX8_step1_13 (q := 16) rfl ?_
  refine j_iconst (v := 2) dX8_step1_16 (q := 17) rfl (by decide) ?_
  refine j_aload_n dX8_step1_17 (q := 18) rfl rfl ?_
  refine j_getIV fs_X8_76 rfl rfl ((up_nc (by decide)).trans h4) dX8_step1_18 (q := 21) rfl ?_
  refine j_imulN (a := 2) dX8_step1_21 (q := 22) rfl ?_
  refine j_iconst (v := 1) dX8_step1_22 (q := 23) rfl (by decide) ?_
  refine j_iaddN (b := 1) dX8_step1_23 (q := 24) rfl ?_
  refine j_iload_n dX8_step1_24 (q := 25) rfl rfl ?_
  refine j_iastN rfl (by omega) dX8_step1_25 (q := 26) rfl ?_
  refine j_aload_n dX8_step1_26 (q := 27) rfl rfl ?_
  refine j_dup dX8_step1_27 (q := 28) rfl rfl ?_
  refine j_getIV fs_X8_76 rfl rfl ((up_nc (by decide)).trans ((up_nc (by decide)).trans h4)) dX8_step1_28 (q := 31) rfl ?_
  refine j_iconst (v := 1) dX8_step1_31 (q := 32) rfl (by decide) ?_
  refine j_iaddN (b := 1) dX8_step1_32 (q := 33) rfl ?_
  refine j_putI fs_X8_76 rfl rfl fp_8_7 dX8_step1_33 (q := 36) rfl ?_
  refine j_vret dX8_step1_36 rfl ?_
  exact ⟨rfl, RK_add hR, (up_nk (by decide)).trans ((up_nc (by decide)).trans (up_nc (by decide))), FM_add⟩
theorem ct_opens_no {g : GT} {σ : S_} (h : σ 70 6 = nI 5) : CT g 0 M_X8_opens [.ref 70] σ (EQ (.int (bI False)) σ) := by
  refine ct_of [.ref 70] pn_X8_opens rfl (Nat.le_of_ble_eq_true rfl) ?_
  refine j_aload_n dX8_opens_0 (q := 1) rfl rfl ?_
  refine j_getIV fs_X8_103 rfl rfl h dX8_opens_1 (q := 4) rfl ?_
  refine j_iconst (v := 5) dX8_opens_4 (q := 5) rfl (by decide) ?_
  refine j_icmp_neN (b := 5) (by omega) (by omega) dX8_opens_5 (t := 10) (by decide) (q := 8) rfl (fun c_5 => ?_) (fun c_5 => ?_)
  · skip
    omega
  · skip
    refine j_iconst (v := 0) dX8_opens_8 (q := 9) rfl (by decide) ?_
    refine j_iretz dX8_opens_9 rfl (by decide) ?_
    exact ⟨rfl, rfl⟩
theorem ct_opens_ok {g : GT} {σ : S_} {B : Nat → Nat} {L u e ρ : Nat} {T : PT} (hR : RK B L u σ T) (he : ρ + (e + 1) = 5) (h : σ 70 6 = nI ρ) : CT g 0 M_X8_opens [.ref 70] σ (EQ (.int (bI True)) (up (up σ 70 6 (nI (ρ + 1))) 70 5 (nI (T.1 + 1)))) := by
  refine ct_of [.ref 70] pn_X8_opens rfl (Nat.le_of_ble_eq_true rfl) ?_
  refine j_aload_n dX8_opens_0 (q := 1) rfl rfl ?_
  refine j_getIV fs_X8_103 rfl rfl h dX8_opens_1 (q := 4) rfl ?_
  refine j_iconst (v := 5) dX8_opens_4 (q := 5) rfl (by decide) ?_
  refine j_icmp_neN (b := 5) (by omega) (by omega) dX8_opens_5 (t := 10) (by decide) (q := 8) rfl (fun c_5 => ?_) (fun c_5 => ?_)
  · skip
    refine j_aload_n dX8_opens_10 (q := 11) rfl rfl ?_
    refine j_dup dX8_opens_11 (q := 12) rfl rfl ?_
    refine j_getIV fs_X8_103 rfl rfl h dX8_opens_12 (q := 15) rfl ?_
    refine j_iconst (v := 1) dX8_opens_15 (q := 16) rfl (by decide) ?_
    refine j_iaddN (b := 1) dX8_opens_16 (q := 17) rfl ?_
    refine j_putI fs_X8_103 rfl rfl fp_8_6 dX8_opens_17 (q := 20) rfl ?_
    refine j_aload_n dX8_opens_20 (q := 21) rfl rfl ?_
    refine j_dup dX8_opens_21 (q := 22) rfl rfl ?_
    refine j_getIV fs_X8_69 rfl rfl ((up_nk (by decide)).trans hR.1) dX8_opens_22 (q := 25) rfl ?_
    refine j_iconst (v := 1) dX8_opens_25 (q := 26) rfl (by decide) ?_
    refine j_iaddN (b := 1) dX8_opens_26 (q := 27) rfl ?_
    refine j_putI fs_X8_69 rfl rfl fp_8_5 dX8_opens_27 (q := 30) rfl ?_
    refine j_iconst (v := 1) dX8_opens_30 (q := 31) rfl (by decide) ?_
    refine j_iretz dX8_opens_31 rfl (by decide) ?_
    exact ⟨rfl, rfl⟩
  · skip
    omega
theorem lproduct_loop {g : GT} {B : Nat → Nat} {L u : Nat} (hL : L ≤ 60) (hB : ∀ j, j < L → B j < 256) {d ρ : Nat} {G : PT → Bool × PT} (hG : ∀ T, T.1 ≤ L → PQ L u T (G T)) (HG : ∀ (T : PT) (σ : S_), T.1 ≤ L → T.2.1 ≤ T.1 → RK B L u σ T → σ 70 6 = nI ρ → CT g d M_X8_one [.ref 70] σ (PY B L u σ (G T))) {σ0 : S_} (hO0 : σ0 70 6 = nI ρ) : ∀ (k : Nat) (T : PT) (σ : S_) (v1 : Value), L < T.1 + k → T.1 ≤ L → T.2.1 ≤ T.1 → RK B L u σ T → σ 70 6 = nI ρ → FM σ0 σ → J g (d + 1) M_X8_product (PY B L u σ0 (pL B L G 4 k T)) 9 [.ref 70, v1] [] σ := by
  intro k
  induction k with
  | zero =>
    intro T σ v1 hk ha hn hR hO hF
    omega
  | succ k ih =>
    intro T σ v1 hk ha hn hR hO hF
    have h1 := hR.1
    refine j_aload_n dX8_product_9 (q := 10) rfl rfl ?_
    refine j_callVi0E (M' := M_X8_look) lk_X8_83 mv_X8_look ob_70 (by omega) (Nat.le_of_ble_eq_true rfl) dX8_product_10 (q := 13) rfl (ct_rk_look (T := T) hL ha hR) ?_
    refine j_bipush (v := 42) dX8_product_13 (q := 15) rfl (by decide) ?_
    refine j_icmp_eq dX8_product_15 (t := 36) (by decide) (q := 18) rfl (fun c_15 => ?_) (fun c_15 => ?_)
    · skip
      have hc : T.1 < L ∧ rkB (B T.1) = 4 := (kR_4 hB).mpr (by first | exact .inl (by assumption) | exact .inr (.inl (by assumption)) | exact .inr (.inr (by assumption)))
      have hv : (kI B L T.1) = nI (B T.1) := kI_in hc.1
      refine j_aload_n dX8_product_36 (q := 37) rfl rfl ?_
      refine j_callVi0E (M' := M_X8_look) lk_X8_83 mv_X8_look ob_70 (by omega) (Nat.le_of_ble_eq_true rfl) dX8_product_37 (q := 40) rfl (ct_rk_look (T := T) hL ha hR) ?_
      refine j_istore_n_2_1 dX8_product_40 (q := 41) rfl rfl rfl ?_
      refine j_aload_n dX8_product_41 (q := 42) rfl rfl ?_
      refine j_dup dX8_product_42 (q := 43) rfl rfl ?_
      refine j_getIV fs_X8_69 rfl rfl h1 dX8_product_43 (q := 46) rfl ?_
      refine j_iconst (v := 1) dX8_product_46 (q := 47) rfl (by decide) ?_
      refine j_iaddN (b := 1) dX8_product_47 (q := 48) rfl ?_
      refine j_putI fs_X8_69 rfl rfl fp_8_5 dX8_product_48 (q := 51) rfl ?_
      refine j_aload_n dX8_product_51 (q := 52) rfl rfl ?_
      refine j_callVi0 (M' := M_X8_one) lk_X8_100 mv_X8_one ob_70 (by omega) (Nat.le_of_ble_eq_true rfl) dX8_product_52 (q := 55) rfl (HG (pNx T) _ (by show T.1 + 1 ≤ L; omega) (by show T.2.1 ≤ T.1 + 1; omega) (RK_nx hR) ((up_nk (by decide)).trans hO)) ?_
      intro x1 τ1 hz1
      obtain ⟨z1, hR1, hO1, hF1⟩ := hz1
      cases z1
      have hq := hG (pNx T) hc.1
      obtain ⟨q1, q2, q3, q4, q5⟩ := hq.1
      replace q1 : T.1 + 1 ≤ _ := q1
      replace q3 : T.2.1 ≤ _ := q3
      replace q4 : _ + (T.1 + 1) ≤ _ + T.2.1 := q4
      refine j_ifneB dX8_product_55 (t := 60) (by decide) (q := 58) rfl (fun c_55 => ?_) (fun c_55 => ?_)
      · skip
        refine j_aload_n dX8_product_60 (q := 61) rfl rfl ?_
        refine j_iconst (v := 3) dX8_product_61 (q := 62) rfl (by decide) ?_
        refine j_iload_n dX8_product_62 (q := 63) rfl rfl ?_
        refine j_callVv2 (M' := M_X8_step1) lk_X8_87 mv_X8_step1 ob_70 (by omega) (Nat.le_of_ble_eq_true rfl) dX8_product_63 (q := 66) rfl (ct_rk_step1 (T := (G (pNx T)).2) hR1 (by omega)) ?_
        intro τ2 hz2
        obtain ⟨_, hR2, hO2, hF2⟩ := hz2
        rw [hv] at hR2
        refine j_goto (q := 9) dX8_product_66 (by decide) ?_
        rw [show pL B L G 4 (k + 1) T = pL B L G 4 k (pAdd 3 (nI (B T.1)) (G (pNx T)).2) from (if_pos hc).trans ((if_pos c_55).trans (if_neg (by decide)))]
        exact ih (pAdd 3 (nI (B T.1)) (G (pNx T)).2) _ _ (by show L < (G (pNx T)).2.1 + k; omega) q2 (by show (G (pNx T)).2.2.1 + 1 ≤ (G (pNx T)).2.1; omega) hR2 (hO2.trans ((hO1 c_55).trans ((up_nk (by decide)).trans hO))) (((hF.tr FM_5).tr hF1).tr hF2)
      · skip
        refine j_iconst (v := 0) dX8_product_58 (q := 59) rfl (by decide) ?_
        refine j_iretz dX8_product_59 rfl (by decide) ?_
        rw [show pL B L G 4 (k + 1) T = (false, (G (pNx T)).2) from (if_pos hc).trans (if_neg c_55)]
        exact ⟨rfl, hR1, fun q => absurd q Bool.false_ne_true, (hF.tr FM_5).tr hF1⟩
    · skip
      refine j_aload_n dX8_product_18 (q := 19) rfl rfl ?_
      refine j_callVi0E (M' := M_X8_look) lk_X8_83 mv_X8_look ob_70 (by omega) (Nat.le_of_ble_eq_true rfl) dX8_product_19 (q := 22) rfl (ct_rk_look (T := T) hL ha hR) ?_
      refine j_bipush (v := 47) dX8_product_22 (q := 24) rfl (by decide) ?_
      refine j_icmp_eq dX8_product_24 (t := 36) (by decide) (q := 27) rfl (fun c_24 => ?_) (fun c_24 => ?_)
      · skip
        have hc : T.1 < L ∧ rkB (B T.1) = 4 := (kR_4 hB).mpr (by first | exact .inl (by assumption) | exact .inr (.inl (by assumption)) | exact .inr (.inr (by assumption)))
        have hv : (kI B L T.1) = nI (B T.1) := kI_in hc.1
        refine j_aload_n dX8_product_36 (q := 37) rfl rfl ?_
        refine j_callVi0E (M' := M_X8_look) lk_X8_83 mv_X8_look ob_70 (by omega) (Nat.le_of_ble_eq_true rfl) dX8_product_37 (q := 40) rfl (ct_rk_look (T := T) hL ha hR) ?_
        refine j_istore_n_2_1 dX8_product_40 (q := 41) rfl rfl rfl ?_
        refine j_aload_n dX8_product_41 (q := 42) rfl rfl ?_
        refine j_dup dX8_product_42 (q := 43) rfl rfl ?_
        refine j_getIV fs_X8_69 rfl rfl h1 dX8_product_43 (q := 46) rfl ?_
        refine j_iconst (v := 1) dX8_product_46 (q := 47) rfl (by decide) ?_
        refine j_iaddN (b := 1) dX8_product_47 (q := 48) rfl ?_
        refine j_putI fs_X8_69 rfl rfl fp_8_5 dX8_product_48 (q := 51) rfl ?_
        refine j_aload_n dX8_product_51 (q := 52) rfl rfl ?_
        refine j_callVi0 (M' := M_X8_one) lk_X8_100 mv_X8_one ob_70 (by omega) (Nat.le_of_ble_eq_true rfl) dX8_product_52 (q := 55) rfl (HG (pNx T) _ (by show T.1 + 1 ≤ L; omega) (by show T.2.1 ≤ T.1 + 1; omega) (RK_nx hR) ((up_nk (by decide)).trans hO)) ?_
        intro x1 τ1 hz1
        obtain ⟨z1, hR1, hO1, hF1⟩ := hz1
        cases z1
        have hq := hG (pNx T) hc.1
        obtain ⟨q1, q2, q3, q4, q5⟩ := hq.1
        replace q1 : T.1 + 1 ≤ _ := q1
        replace q3 : T.2.1 ≤ _ := q3
        replace q4 : _ + (T.1 + 1) ≤ _ + T.2.1 := q4
        refine j_ifneB dX8_product_55 (t := 60) (by decide) (q := 58) rfl (fun c_55 => ?_) (fun c_55 => ?_)
        · skip
          refine j_aload_n dX8_product_60 (q := 61) rfl rfl ?_
          refine j_iconst (v := 3) dX8_product_61 (q := 62) rfl (by decide) ?_
          refine j_iload_n dX8_product_62 (q := 63) rfl rfl ?_
          refine j_callVv2 (M' := M_X8_step1) lk_X8_87 mv_X8_step1 ob_70 (by omega) (Nat.le_of_ble_eq_true rfl) dX8_product_63 (q := 66) rfl (ct_rk_step1 (T := (G (pNx T)).2) hR1 (by omega)) ?_
          intro τ2 hz2
          obtain ⟨_, hR2, hO2, hF2⟩ := hz2
          rw [hv] at hR2
          refine j_goto (q := 9) dX8_product_66 (by decide) ?_
          rw [show pL B L G 4 (k + 1) T = pL B L G 4 k (pAdd 3 (nI (B T.1)) (G (pNx T)).2) from (if_pos hc).trans ((if_pos c_55).trans (if_neg (by decide)))]
          exact ih (pAdd 3 (nI (B T.1)) (G (pNx T)).2) _ _ (by show L < (G (pNx T)).2.1 + k; omega) q2 (by show (G (pNx T)).2.2.1 + 1 ≤ (G (pNx T)).2.1; omega) hR2 (hO2.trans ((hO1 c_55).trans ((up_nk (by decide)).trans hO))) (((hF.tr FM_5).tr hF1).tr hF2)
        · skip
          refine j_iconst (v := 0) dX8_product_58 (q := 59) rfl (by decide) ?_
          refine j_iretz dX8_product_59 rfl (by decide) ?_
          rw [show pL B L G 4 (k + 1) T = (false, (G (pNx T)).2) from (if_pos hc).trans (if_neg c_55)]
          exact ⟨rfl, hR1, fun q => absurd q Bool.false_ne_true, (hF.tr FM_5).tr hF1⟩
      · skip
        refine j_aload_n dX8_product_27 (q := 28) rfl rfl ?_
        refine j_callVi0E (M' := M_X8_look) lk_X8_83 mv_X8_look ob_70 (by omega) (Nat.le_of_ble_eq_true rfl) dX8_product_28 (q := 31) rfl (ct_rk_look (T := T) hL ha hR) ?_
        refine j_bipush (v := 37) dX8_product_31 (q := 33) rfl (by decide) ?_
        refine j_icmp_ne dX8_product_33 (t := 69) (by decide) (q := 36) rfl (fun c_33 => ?_) (fun c_33 => ?_)
        · skip
          refine j_iconst (v := 1) dX8_product_69 (q := 70) rfl (by decide) ?_
          refine j_iretz dX8_product_70 rfl (by decide) ?_
          rw [pl_end (fun q => ((kR_4 hB).mp q).elim c_15 (fun q => q.elim c_24 c_33))]
          exact ⟨rfl, hR, fun _ => hO.trans hO0.symm, hF⟩
        · skip
          have hc : T.1 < L ∧ rkB (B T.1) = 4 := (kR_4 hB).mpr (by first | exact .inl (by assumption) | exact .inr (.inl (by assumption)) | exact .inr (.inr (by assumption)))
          have hv : (kI B L T.1) = nI (B T.1) := kI_in hc.1
          refine j_aload_n dX8_product_36 (q := 37) rfl rfl ?_
          refine j_callVi0E (M' := M_X8_look) lk_X8_83 mv_X8_look ob_70 (by omega) (Nat.le_of_ble_eq_true rfl) dX8_product_37 (q := 40) rfl (ct_rk_look (T := T) hL ha hR) ?_
          refine j_istore_n_2_1 dX8_product_40 (q := 41) rfl rfl rfl ?_
          refine j_aload_n dX8_product_41 (q := 42) rfl rfl ?_
          refine j_dup dX8_product_42 (q := 43) rfl rfl ?_
          refine j_getIV fs_X8_69 rfl rfl h1 dX8_product_43 (q := 46) rfl ?_
          refine j_iconst (v := 1) dX8_product_46 (q := 47) rfl (by decide) ?_
          refine j_iaddN (b := 1) dX8_product_47 (q := 48) rfl ?_
          refine j_putI fs_X8_69 rfl rfl fp_8_5 dX8_product_48 (q := 51) rfl ?_
          refine j_aload_n dX8_product_51 (q := 52) rfl rfl ?_
          refine j_callVi0 (M' := M_X8_one) lk_X8_100 mv_X8_one ob_70 (by omega) (Nat.le_of_ble_eq_true rfl) dX8_product_52 (q := 55) rfl (HG (pNx T) _ (by show T.1 + 1 ≤ L; omega) (by show T.2.1 ≤ T.1 + 1; omega) (RK_nx hR) ((up_nk (by decide)).trans hO)) ?_
          intro x1 τ1 hz1
          obtain ⟨z1, hR1, hO1, hF1⟩ := hz1
          cases z1
          have hq := hG (pNx T) hc.1
          obtain ⟨q1, q2, q3, q4, q5⟩ := hq.1
          replace q1 : T.1 + 1 ≤ _ := q1
          replace q3 : T.2.1 ≤ _ := q3
          replace q4 : _ + (T.1 + 1) ≤ _ + T.2.1 := q4
          refine j_ifneB dX8_product_55 (t := 60) (by decide) (q := 58) rfl (fun c_55 => ?_) (fun c_55 => ?_)
          · skip
            refine j_aload_n dX8_product_60 (q := 61) rfl rfl ?_
            refine j_iconst (v := 3) dX8_product_61 (q := 62) rfl (by decide) ?_
            refine j_iload_n dX8_product_62 (q := 63) rfl rfl ?_
            refine j_callVv2 (M' := M_X8_step1) lk_X8_87 mv_X8_step1 ob_70 (by omega) (Nat.le_of_ble_eq_true rfl) dX8_product_63 (q := 66) rfl (ct_rk_step1 (T := (G (pNx T)).2) hR1 (by omega)) ?_
            intro τ2 hz2
            obtain ⟨_, hR2, hO2, hF2⟩ := hz2
            rw [hv] at hR2
            refine j_goto (q := 9) dX8_product_66 (by decide) ?_
            rw [show pL B L G 4 (k + 1) T = pL B L G 4 k (pAdd 3 (nI (B T.1)) (G (pNx T)).2) from (if_pos hc).trans ((if_pos c_55).trans (if_neg (by decide)))]
            exact ih (pAdd 3 (nI (B T.1)) (G (pNx T)).2) _ _ (by show L < (G (pNx T)).2.1 + k; omega) q2 (by show (G (pNx T)).2.2.1 + 1 ≤ (G (pNx T)).2.1; omega) hR2 (hO2.trans ((hO1 c_55).trans ((up_nk (by decide)).trans hO))) (((hF.tr FM_5).tr hF1).tr hF2)
          · skip
            refine j_iconst (v := 0) dX8_product_58 (q := 59) rfl (by decide) ?_
            refine j_iretz dX8_product_59 rfl (by decide) ?_
            rw [show pL B L G 4 (k + 1) T = (false, (G (pNx T)).2) from (if_pos hc).trans (if_neg c_55)]
            exact ⟨rfl, hR1, fun q => absurd q Bool.false_ne_true, (hF.tr FM_5).tr hF1⟩
theorem ct_product {g : GT} {σ : S_} {B : Nat → Nat} {L u : Nat} (hL : L ≤ 60) (hB : ∀ j, j < L → B j < 256) {d ρ : Nat} {G : PT → Bool × PT} (hG : ∀ T, T.1 ≤ L → PQ L u T (G T)) (HG : ∀ (T : PT) (σ : S_), T.1 ≤ L → T.2.1 ≤ T.1 → RK B L u σ T → σ 70 6 = nI ρ → CT g d M_X8_one [.ref 70] σ (PY B L u σ (G T))) {T : PT} (ha : T.1 ≤ L) (hn : T.2.1 ≤ T.1) (hR : RK B L u σ T) (hO : σ 70 6 = nI ρ) : CT g (d + 1) M_X8_product [.ref 70] σ (PY B L u σ (if (G T).1 = true then pL B L G 4 61 (G T).2 else (false, (G T).2))) := by
  refine ct_of [.ref 70, .null] pn_X8_product rfl (Nat.le_of_ble_eq_true rfl) ?_
  refine j_aload_n dX8_product_0 (q := 1) rfl rfl ?_
  refine j_callVi0 (M' := M_X8_one) lk_X8_100 mv_X8_one ob_70 (by omega) (Nat.le_of_ble_eq_true rfl) dX8_product_1 (q := 4) rfl (HG T σ ha hn hR hO) ?_
  intro x1 τ1 hz1
  obtain ⟨z1, hR1, hO1, hF1⟩ := hz1
  cases z1
  have hq := hG T ha
  obtain ⟨q1, q2, q3, q4, q5⟩ := hq.1
  refine j_ifneB dX8_product_4 (t := 9) (by decide) (q := 7) rfl (fun c_4 => ?_) (fun c_4 => ?_)
  · skip
    rw [if_pos c_4]
    exact lproduct_loop hL hB hG HG hO 61 (G T).2 _ _ (by omega) q2 (by omega) hR1 ((hO1 c_4).trans hO) hF1
  · skip
    refine j_iconst (v := 0) dX8_product_7 (q := 8) rfl (by decide) ?_
    refine j_iretz dX8_product_8 rfl (by decide) ?_
    rw [if_neg c_4]
    exact ⟨rfl, hR1, fun q => absurd q Bool.false_ne_true, hF1⟩
theorem lsum_loop {g : GT} {B : Nat → Nat} {L u : Nat} (hL : L ≤ 60) (hB : ∀ j, j < L → B j < 256) {d ρ : Nat} {G : PT → Bool × PT} (hG : ∀ T, T.1 ≤ L → PQ L u T (G T)) (HG : ∀ (T : PT) (σ : S_), T.1 ≤ L → T.2.1 ≤ T.1 → RK B L u σ T → σ 70 6 = nI ρ → CT g d M_X8_product [.ref 70] σ (PY B L u σ (G T))) {σ0 : S_} (hO0 : σ0 70 6 = nI ρ) : ∀ (k : Nat) (T : PT) (σ : S_) (v1 : Value), L < T.1 + k → T.1 ≤ L → T.2.1 ≤ T.1 → RK B L u σ T → σ 70 6 = nI ρ → FM σ0 σ → J g (d + 1) M_X8_sum (PY B L u σ0 (pL B L G 3 k T)) 9 [.ref 70, v1] [] σ := by
  intro k
  induction k with
  | zero =>
    intro T σ v1 hk ha hn hR hO hF
    omega
  | succ k ih =>
    intro T σ v1 hk ha hn hR hO hF
    have h1 := hR.1
    refine j_aload_n dX8_sum_9 (q := 10) rfl rfl ?_
    refine j_callVi0E (M' := M_X8_look) lk_X8_83 mv_X8_look ob_70 (by omega) (Nat.le_of_ble_eq_true rfl) dX8_sum_10 (q := 13) rfl (ct_rk_look (T := T) hL ha hR) ?_
    refine j_bipush (v := 43) dX8_sum_13 (q := 15) rfl (by decide) ?_
    refine j_icmp_eq dX8_sum_15 (t := 27) (by decide) (q := 18) rfl (fun c_15 => ?_) (fun c_15 => ?_)
    · skip
      have hc : T.1 < L ∧ rkB (B T.1) = 3 := (kR_3 hB).mpr (by first | exact .inl (by assumption) | exact .inr (by assumption))
      have hv : (kI B L T.1) = nI (B T.1) := kI_in hc.1
      refine j_aload_n dX8_sum_27 (q := 28) rfl rfl ?_
      refine j_callVi0E (M' := M_X8_look) lk_X8_83 mv_X8_look ob_70 (by omega) (Nat.le_of_ble_eq_true rfl) dX8_sum_28 (q := 31) rfl (ct_rk_look (T := T) hL ha hR) ?_
      refine j_istore_n_2_1 dX8_sum_31 (q := 32) rfl rfl rfl ?_
      refine j_aload_n dX8_sum_32 (q := 33) rfl rfl ?_
      refine j_dup dX8_sum_33 (q := 34) rfl rfl ?_
      refine j_getIV fs_X8_69 rfl rfl h1 dX8_sum_34 (q := 37) rfl ?_
      refine j_iconst (v := 1) dX8_sum_37 (q := 38) rfl (by decide) ?_
      refine j_iaddN (b := 1) dX8_sum_38 (q := 39) rfl ?_
      refine j_putI fs_X8_69 rfl rfl fp_8_5 dX8_sum_39 (q := 42) rfl ?_
      refine j_aload_n dX8_sum_42 (q := 43) rfl rfl ?_
      refine j_callVi0 (M' := M_X8_product) lk_X8_97 mv_X8_product ob_70 (by omega) (Nat.le_of_ble_eq_true rfl) dX8_sum_43 (q := 46) rfl (HG (pNx T) _ (by show T.1 + 1 ≤ L; omega) (by show T.2.1 ≤ T.1 + 1; omega) (RK_nx hR) ((up_nk (by decide)).trans hO)) ?_
      intro x1 τ1 hz1
      obtain ⟨z1, hR1, hO1, hF1⟩ := hz1
      cases z1
      have hq := hG (pNx T) hc.1
      obtain ⟨q1, q2, q3, q4, q5⟩ := hq.1
      replace q1 : T.1 + 1 ≤ _ := q1
      replace q3 : T.2.1 ≤ _ := q3
      replace q4 : _ + (T.1 + 1) ≤ _ + T.2.1 := q4
      refine j_ifneB dX8_sum_46 (t := 51) (by decide) (q := 49) rfl (fun c_46 => ?_) (fun c_46 => ?_)
      · skip
        refine j_aload_n dX8_sum_51 (q := 52) rfl rfl ?_
        refine j_iconst (v := 3) dX8_sum_52 (q := 53) rfl (by decide) ?_
        refine j_iload_n dX8_sum_53 (q := 54) rfl rfl ?_
        refine j_callVv2 (M' := M_X8_step1) lk_X8_87 mv_X8_step1 ob_70 (by omega) (Nat.le_of_ble_eq_true rfl) dX8_sum_54 (q := 57) rfl (ct_rk_step1 (T := (G (pNx T)).2) hR1 (by omega)) ?_
        intro τ2 hz2
        obtain ⟨_, hR2, hO2, hF2⟩ := hz2
        rw [hv] at hR2
        refine j_goto (q := 9) dX8_sum_57 (by decide) ?_
        rw [show pL B L G 3 (k + 1) T = pL B L G 3 k (pAdd 3 (nI (B T.1)) (G (pNx T)).2) from (if_pos hc).trans ((if_pos c_46).trans (if_neg (by decide)))]
        exact ih (pAdd 3 (nI (B T.1)) (G (pNx T)).2) _ _ (by show L < (G (pNx T)).2.1 + k; omega) q2 (by show (G (pNx T)).2.2.1 + 1 ≤ (G (pNx T)).2.1; omega) hR2 (hO2.trans ((hO1 c_46).trans ((up_nk (by decide)).trans hO))) (((hF.tr FM_5).tr hF1).tr hF2)
      · skip
        refine j_iconst (v := 0) dX8_sum_49 (q := 50) rfl (by decide) ?_
        refine j_iretz dX8_sum_50 rfl (by decide) ?_
        rw [show pL B L G 3 (k + 1) T = (false, (G (pNx T)).2) from (if_pos hc).trans (if_neg c_46)]
        exact ⟨rfl, hR1, fun q => absurd q Bool.false_ne_true, (hF.tr FM_5).tr hF1⟩
    · skip
      refine j_aload_n dX8_sum_18 (q := 19) rfl rfl ?_
      refine j_callVi0E (M' := M_X8_look) lk_X8_83 mv_X8_look ob_70 (by omega) (Nat.le_of_ble_eq_true rfl) dX8_sum_19 (q := 22) rfl (ct_rk_look (T := T) hL ha hR) ?_
      refine j_bipush (v := 45) dX8_sum_22 (q := 24) rfl (by decide) ?_
      refine j_icmp_ne dX8_sum_24 (t := 60) (by decide) (q := 27) rfl (fun c_24 => ?_) (fun c_24 => ?_)
      · skip
        refine j_iconst (v := 1) dX8_sum_60 (q := 61) rfl (by decide) ?_
        refine j_iretz dX8_sum_61 rfl (by decide) ?_
        rw [pl_end (fun q => ((kR_3 hB).mp q).elim c_15 c_24)]
        exact ⟨rfl, hR, fun _ => hO.trans hO0.symm, hF⟩
      · skip
        have hc : T.1 < L ∧ rkB (B T.1) = 3 := (kR_3 hB).mpr (by first | exact .inl (by assumption) | exact .inr (by assumption))
        have hv : (kI B L T.1) = nI (B T.1) := kI_in hc.1
        refine j_aload_n dX8_sum_27 (q := 28) rfl rfl ?_
        refine j_callVi0E (M' := M_X8_look) lk_X8_83 mv_X8_look ob_70 (by omega) (Nat.le_of_ble_eq_true rfl) dX8_sum_28 (q := 31) rfl (ct_rk_look (T := T) hL ha hR) ?_
        refine j_istore_n_2_1 dX8_sum_31 (q := 32) rfl rfl rfl ?_
        refine j_aload_n dX8_sum_32 (q := 33) rfl rfl ?_
        refine j_dup dX8_sum_33 (q := 34) rfl rfl ?_
        refine j_getIV fs_X8_69 rfl rfl h1 dX8_sum_34 (q := 37) rfl ?_
        refine j_iconst (v := 1) dX8_sum_37 (q := 38) rfl (by decide) ?_
        refine j_iaddN (b := 1) dX8_sum_38 (q := 39) rfl ?_
        refine j_putI fs_X8_69 rfl rfl fp_8_5 dX8_sum_39 (q := 42) rfl ?_
        refine j_aload_n dX8_sum_42 (q := 43) rfl rfl ?_
        refine j_callVi0 (M' := M_X8_product) lk_X8_97 mv_X8_product ob_70 (by omega) (Nat.le_of_ble_eq_true rfl) dX8_sum_43 (q := 46) rfl (HG (pNx T) _ (by show T.1 + 1 ≤ L; omega) (by show T.2.1 ≤ T.1 + 1; omega) (RK_nx hR) ((up_nk (by decide)).trans hO)) ?_
        intro x1 τ1 hz1
        obtain ⟨z1, hR1, hO1, hF1⟩ := hz1
        cases z1
        have hq := hG (pNx T) hc.1
        obtain ⟨q1, q2, q3, q4, q5⟩ := hq.1
        replace q1 : T.1 + 1 ≤ _ := q1
        replace q3 : T.2.1 ≤ _ := q3
        replace q4 : _ + (T.1 + 1) ≤ _ + T.2.1 := q4
        refine j_ifneB dX8_sum_46 (t := 51) (by decide) (q := 49) rfl (fun c_46 => ?_) (fun c_46 => ?_)
        · skip
          refine j_aload_n dX8_sum_51 (q := 52) rfl rfl ?_
          refine j_iconst (v := 3) dX8_sum_52 (q := 53) rfl (by decide) ?_
          refine j_iload_n dX8_sum_53 (q := 54) rfl rfl ?_
          refine j_callVv2 (M' := M_X8_step1) lk_X8_87 mv_X8_step1 ob_70 (by omega) (Nat.le_of_ble_eq_true rfl) dX8_sum_54 (q := 57) rfl (ct_rk_step1 (T := (G (pNx T)).2) hR1 (by omega)) ?_
          intro τ2 hz2
          obtain ⟨_, hR2, hO2, hF2⟩ := hz2
          rw [hv] at hR2
          refine j_goto (q := 9) dX8_sum_57 (by decide) ?_
          rw [show pL B L G 3 (k + 1) T = pL B L G 3 k (pAdd 3 (nI (B T.1)) (G (pNx T)).2) from (if_pos hc).trans ((if_pos c_46).trans (if_neg (by decide)))]
          exact ih (pAdd 3 (nI (B T.1)) (G (pNx T)).2) _ _ (by show L < (G (pNx T)).2.1 + k; omega) q2 (by show (G (pNx T)).2.2.1 + 1 ≤ (G (pNx T)).2.1; omega) hR2 (hO2.trans ((hO1 c_46).trans ((up_nk (by decide)).trans hO))) (((hF.tr FM_5).tr hF1).tr hF2)
        · skip
          refine j_iconst (v := 0) dX8_sum_49 (q := 50) rfl (by decide) ?_
          refine j_iretz dX8_sum_50 rfl (by decide) ?_
          rw [show pL B L G 3 (k + 1) T = (false, (G (pNx T)).2) from (if_pos hc).trans (if_neg c_46)]
          exact ⟨rfl, hR1, fun q => absurd q Bool.false_ne_true, (hF.tr FM_5).tr hF1⟩
theorem ct_sum {g : GT} {σ : S_} {B : Nat → Nat} {L u : Nat} (hL : L ≤ 60) (hB : ∀ j, j < L → B j < 256) {d ρ : Nat} {G : PT → Bool × PT} (hG : ∀ T, T.1 ≤ L → PQ L u T (G T)) (HG : ∀ (T : PT) (σ : S_), T.1 ≤ L → T.2.1 ≤ T.1 → RK B L u σ T → σ 70 6 = nI ρ → CT g d M_X8_product [.ref 70] σ (PY B L u σ (G T))) {T : PT} (ha : T.1 ≤ L) (hn : T.2.1 ≤ T.1) (hR : RK B L u σ T) (hO : σ 70 6 = nI ρ) : CT g (d + 1) M_X8_sum [.ref 70] σ (PY B L u σ (if (G T).1 = true then pL B L G 3 61 (G T).2 else (false, (G T).2))) := by
  refine ct_of [.ref 70, .null] pn_X8_sum rfl (Nat.le_of_ble_eq_true rfl) ?_
  refine j_aload_n dX8_sum_0 (q := 1) rfl rfl ?_
  refine j_callVi0 (M' := M_X8_product) lk_X8_97 mv_X8_product ob_70 (by omega) (Nat.le_of_ble_eq_true rfl) dX8_sum_1 (q := 4) rfl (HG T σ ha hn hR hO) ?_
  intro x1 τ1 hz1
  obtain ⟨z1, hR1, hO1, hF1⟩ := hz1
  cases z1
  have hq := hG T ha
  obtain ⟨q1, q2, q3, q4, q5⟩ := hq.1
  refine j_ifneB dX8_sum_4 (t := 9) (by decide) (q := 7) rfl (fun c_4 => ?_) (fun c_4 => ?_)
  · skip
    rw [if_pos c_4]
    exact lsum_loop hL hB hG HG hO 61 (G T).2 _ _ (by omega) q2 (by omega) hR1 ((hO1 c_4).trans hO) hF1
  · skip
    refine j_iconst (v := 0) dX8_sum_7 (q := 8) rfl (by decide) ?_
    refine j_iretz dX8_sum_8 rfl (by decide) ?_
    rw [if_neg c_4]
    exact ⟨rfl, hR1, fun q => absurd q Bool.false_ne_true, hF1⟩
theorem lcompared_loop {g : GT} {B : Nat → Nat} {L u : Nat} (hL : L ≤ 60) (hB : ∀ j, j < L → B j < 256) {d ρ : Nat} {G : PT → Bool × PT} (hG : ∀ T, T.1 ≤ L → PQ L u T (G T)) (HG : ∀ (T : PT) (σ : S_), T.1 ≤ L → T.2.1 ≤ T.1 → RK B L u σ T → σ 70 6 = nI ρ → CT g d M_X8_sum [.ref 70] σ (PY B L u σ (G T))) {σ0 : S_} (hO0 : σ0 70 6 = nI ρ) : ∀ (k : Nat) (T : PT) (σ : S_) (v1 : Value), L < T.1 + k → T.1 ≤ L → T.2.1 ≤ T.1 → RK B L u σ T → σ 70 6 = nI ρ → FM σ0 σ → J g (d + 1) M_X8_compared (PY B L u σ0 (pL B L G 2 k T)) 9 [.ref 70, v1] [] σ := by
  intro k
  induction k with
  | zero =>
    intro T σ v1 hk ha hn hR hO hF
    omega
  | succ k ih =>
    intro T σ v1 hk ha hn hR hO hF
    have h1 := hR.1
    refine j_aload_n dX8_compared_9 (q := 10) rfl rfl ?_
    refine j_callVi0E (M' := M_X8_look) lk_X8_83 mv_X8_look ob_70 (by omega) (Nat.le_of_ble_eq_true rfl) dX8_compared_10 (q := 13) rfl (ct_rk_look (T := T) hL ha hR) ?_
    refine j_istore_n_2_1 dX8_compared_13 (q := 14) rfl rfl rfl ?_
    refine j_iload_n dX8_compared_14 (q := 15) rfl rfl ?_
    refine j_bipush (v := 60) dX8_compared_15 (q := 17) rfl (by decide) ?_
    refine j_icmp_eq dX8_compared_17 (t := 34) (by decide) (q := 20) rfl (fun c_17 => ?_) (fun c_17 => ?_)
    · skip
      have hc : T.1 < L ∧ rkB (B T.1) = 2 := (kR_2 hB).mpr (by first | exact .inl (by assumption) | exact .inr (.inl (by assumption)) | exact .inr (.inr (by assumption)))
      have hv : (kI B L T.1) = nI (B T.1) := kI_in hc.1
      refine j_aload_n dX8_compared_34 (q := 35) rfl rfl ?_
      refine j_dup dX8_compared_35 (q := 36) rfl rfl ?_
      refine j_getIV fs_X8_69 rfl rfl h1 dX8_compared_36 (q := 39) rfl ?_
      refine j_iconst (v := 1) dX8_compared_39 (q := 40) rfl (by decide) ?_
      refine j_iaddN (b := 1) dX8_compared_40 (q := 41) rfl ?_
      refine j_putI fs_X8_69 rfl rfl fp_8_5 dX8_compared_41 (q := 44) rfl ?_
      refine j_aload_n dX8_compared_44 (q := 45) rfl rfl ?_
      refine j_callVi0 (M' := M_X8_sum) lk_X8_94 mv_X8_sum ob_70 (by omega) (Nat.le_of_ble_eq_true rfl) dX8_compared_45 (q := 48) rfl (HG (pNx T) _ (by show T.1 + 1 ≤ L; omega) (by show T.2.1 ≤ T.1 + 1; omega) (RK_nx hR) ((up_nk (by decide)).trans hO)) ?_
      intro x1 τ1 hz1
      obtain ⟨z1, hR1, hO1, hF1⟩ := hz1
      cases z1
      have hq := hG (pNx T) hc.1
      obtain ⟨q1, q2, q3, q4, q5⟩ := hq.1
      replace q1 : T.1 + 1 ≤ _ := q1
      replace q3 : T.2.1 ≤ _ := q3
      replace q4 : _ + (T.1 + 1) ≤ _ + T.2.1 := q4
      refine j_ifneB dX8_compared_48 (t := 53) (by decide) (q := 51) rfl (fun c_48 => ?_) (fun c_48 => ?_)
      · skip
        refine j_aload_n dX8_compared_53 (q := 54) rfl rfl ?_
        refine j_iconst (v := 3) dX8_compared_54 (q := 55) rfl (by decide) ?_
        refine j_iload_n dX8_compared_55 (q := 56) rfl rfl ?_
        refine j_callVv2 (M' := M_X8_step1) lk_X8_87 mv_X8_step1 ob_70 (by omega) (Nat.le_of_ble_eq_true rfl) dX8_compared_56 (q := 59) rfl (ct_rk_step1 (T := (G (pNx T)).2) hR1 (by omega)) ?_
        intro τ2 hz2
        obtain ⟨_, hR2, hO2, hF2⟩ := hz2
        rw [hv] at hR2
        refine j_iconst (v := 1) dX8_compared_59 (q := 60) rfl (by decide) ?_
        refine j_iretz dX8_compared_60 rfl (by decide) ?_
        rw [show pL B L G 2 (k + 1) T = (true, pAdd 3 (nI (B T.1)) (G (pNx T)).2) from (if_pos hc).trans ((if_pos c_48).trans (if_pos rfl))]
        exact ⟨rfl, hR2, fun _ => (hO2.trans ((hO1 c_48).trans ((up_nk (by decide)).trans hO))).trans hO0.symm, ((hF.tr FM_5).tr hF1).tr hF2⟩
      · skip
        refine j_iconst (v := 0) dX8_compared_51 (q := 52) rfl (by decide) ?_
        refine j_iretz dX8_compared_52 rfl (by decide) ?_
        rw [show pL B L G 2 (k + 1) T = (false, (G (pNx T)).2) from (if_pos hc).trans (if_neg c_48)]
        exact ⟨rfl, hR1, fun q => absurd q Bool.false_ne_true, (hF.tr FM_5).tr hF1⟩
    · skip
      refine j_iload_n dX8_compared_20 (q := 21) rfl rfl ?_
      refine j_bipush (v := 61) dX8_compared_21 (q := 23) rfl (by decide) ?_
      refine j_icmp_eq dX8_compared_23 (t := 34) (by decide) (q := 26) rfl (fun c_23 => ?_) (fun c_23 => ?_)
      · skip
        have hc : T.1 < L ∧ rkB (B T.1) = 2 := (kR_2 hB).mpr (by first | exact .inl (by assumption) | exact .inr (.inl (by assumption)) | exact .inr (.inr (by assumption)))
        have hv : (kI B L T.1) = nI (B T.1) := kI_in hc.1
        refine j_aload_n dX8_compared_34 (q := 35) rfl rfl ?_
        refine j_dup dX8_compared_35 (q := 36) rfl rfl ?_
        refine j_getIV fs_X8_69 rfl rfl h1 dX8_compared_36 (q := 39) rfl ?_
        refine j_iconst (v := 1) dX8_compared_39 (q := 40) rfl (by decide) ?_
        refine j_iaddN (b := 1) dX8_compared_40 (q := 41) rfl ?_
        refine j_putI fs_X8_69 rfl rfl fp_8_5 dX8_compared_41 (q := 44) rfl ?_
        refine j_aload_n dX8_compared_44 (q := 45) rfl rfl ?_
        refine j_callVi0 (M' := M_X8_sum) lk_X8_94 mv_X8_sum ob_70 (by omega) (Nat.le_of_ble_eq_true rfl) dX8_compared_45 (q := 48) rfl (HG (pNx T) _ (by show T.1 + 1 ≤ L; omega) (by show T.2.1 ≤ T.1 + 1; omega) (RK_nx hR) ((up_nk (by decide)).trans hO)) ?_
        intro x1 τ1 hz1
        obtain ⟨z1, hR1, hO1, hF1⟩ := hz1
        cases z1
        have hq := hG (pNx T) hc.1
        obtain ⟨q1, q2, q3, q4, q5⟩ := hq.1
        replace q1 : T.1 + 1 ≤ _ := q1
        replace q3 : T.2.1 ≤ _ := q3
        replace q4 : _ + (T.1 + 1) ≤ _ + T.2.1 := q4
        refine j_ifneB dX8_compared_48 (t := 53) (by decide) (q := 51) rfl (fun c_48 => ?_) (fun c_48 => ?_)
        · skip
          refine j_aload_n dX8_compared_53 (q := 54) rfl rfl ?_
          refine j_iconst (v := 3) dX8_compared_54 (q := 55) rfl (by decide) ?_
          refine j_iload_n dX8_compared_55 (q := 56) rfl rfl ?_
          refine j_callVv2 (M' := M_X8_step1) lk_X8_87 mv_X8_step1 ob_70 (by omega) (Nat.le_of_ble_eq_true rfl) dX8_compared_56 (q := 59) rfl (ct_rk_step1 (T := (G (pNx T)).2) hR1 (by omega)) ?_
          intro τ2 hz2
          obtain ⟨_, hR2, hO2, hF2⟩ := hz2
          rw [hv] at hR2
          refine j_iconst (v := 1) dX8_compared_59 (q := 60) rfl (by decide) ?_
          refine j_iretz dX8_compared_60 rfl (by decide) ?_
          rw [show pL B L G 2 (k + 1) T = (true, pAdd 3 (nI (B T.1)) (G (pNx T)).2) from (if_pos hc).trans ((if_pos c_48).trans (if_pos rfl))]
          exact ⟨rfl, hR2, fun _ => (hO2.trans ((hO1 c_48).trans ((up_nk (by decide)).trans hO))).trans hO0.symm, ((hF.tr FM_5).tr hF1).tr hF2⟩
        · skip
          refine j_iconst (v := 0) dX8_compared_51 (q := 52) rfl (by decide) ?_
          refine j_iretz dX8_compared_52 rfl (by decide) ?_
          rw [show pL B L G 2 (k + 1) T = (false, (G (pNx T)).2) from (if_pos hc).trans (if_neg c_48)]
          exact ⟨rfl, hR1, fun q => absurd q Bool.false_ne_true, (hF.tr FM_5).tr hF1⟩
      · skip
        refine j_iload_n dX8_compared_26 (q := 27) rfl rfl ?_
        refine j_bipush (v := 62) dX8_compared_27 (q := 29) rfl (by decide) ?_
        refine j_icmp_eq dX8_compared_29 (t := 34) (by decide) (q := 32) rfl (fun c_29 => ?_) (fun c_29 => ?_)
        · skip
          have hc : T.1 < L ∧ rkB (B T.1) = 2 := (kR_2 hB).mpr (by first | exact .inl (by assumption) | exact .inr (.inl (by assumption)) | exact .inr (.inr (by assumption)))
          have hv : (kI B L T.1) = nI (B T.1) := kI_in hc.1
          refine j_aload_n dX8_compared_34 (q := 35) rfl rfl ?_
          refine j_dup dX8_compared_35 (q := 36) rfl rfl ?_
          refine j_getIV fs_X8_69 rfl rfl h1 dX8_compared_36 (q := 39) rfl ?_
          refine j_iconst (v := 1) dX8_compared_39 (q := 40) rfl (by decide) ?_
          refine j_iaddN (b := 1) dX8_compared_40 (q := 41) rfl ?_
          refine j_putI fs_X8_69 rfl rfl fp_8_5 dX8_compared_41 (q := 44) rfl ?_
          refine j_aload_n dX8_compared_44 (q := 45) rfl rfl ?_
          refine j_callVi0 (M' := M_X8_sum) lk_X8_94 mv_X8_sum ob_70 (by omega) (Nat.le_of_ble_eq_true rfl) dX8_compared_45 (q := 48) rfl (HG (pNx T) _ (by show T.1 + 1 ≤ L; omega) (by show T.2.1 ≤ T.1 + 1; omega) (RK_nx hR) ((up_nk (by decide)).trans hO)) ?_
          intro x1 τ1 hz1
          obtain ⟨z1, hR1, hO1, hF1⟩ := hz1
          cases z1
          have hq := hG (pNx T) hc.1
          obtain ⟨q1, q2, q3, q4, q5⟩ := hq.1
          replace q1 : T.1 + 1 ≤ _ := q1
          replace q3 : T.2.1 ≤ _ := q3
          replace q4 : _ + (T.1 + 1) ≤ _ + T.2.1 := q4
          refine j_ifneB dX8_compared_48 (t := 53) (by decide) (q := 51) rfl (fun c_48 => ?_) (fun c_48 => ?_)
          · skip
            refine j_aload_n dX8_compared_53 (q := 54) rfl rfl ?_
            refine j_iconst (v := 3) dX8_compared_54 (q := 55) rfl (by decide) ?_
            refine j_iload_n dX8_compared_55 (q := 56) rfl rfl ?_
            refine j_callVv2 (M' := M_X8_step1) lk_X8_87 mv_X8_step1 ob_70 (by omega) (Nat.le_of_ble_eq_true rfl) dX8_compared_56 (q := 59) rfl (ct_rk_step1 (T := (G (pNx T)).2) hR1 (by omega)) ?_
            intro τ2 hz2
            obtain ⟨_, hR2, hO2, hF2⟩ := hz2
            rw [hv] at hR2
            refine j_iconst (v := 1) dX8_compared_59 (q := 60) rfl (by decide) ?_
            refine j_iretz dX8_compared_60 rfl (by decide) ?_
            rw [show pL B L G 2 (k + 1) T = (true, pAdd 3 (nI (B T.1)) (G (pNx T)).2) from (if_pos hc).trans ((if_pos c_48).trans (if_pos rfl))]
            exact ⟨rfl, hR2, fun _ => (hO2.trans ((hO1 c_48).trans ((up_nk (by decide)).trans hO))).trans hO0.symm, ((hF.tr FM_5).tr hF1).tr hF2⟩
          · skip
            refine j_iconst (v := 0) dX8_compared_51 (q := 52) rfl (by decide) ?_
            refine j_iretz dX8_compared_52 rfl (by decide) ?_
            rw [show pL B L G 2 (k + 1) T = (false, (G (pNx T)).2) from (if_pos hc).trans (if_neg c_48)]
            exact ⟨rfl, hR1, fun q => absurd q Bool.false_ne_true, (hF.tr FM_5).tr hF1⟩
        · skip
          refine j_iconst (v := 1) dX8_compared_32 (q := 33) rfl (by decide) ?_
          refine j_iretz dX8_compared_33 rfl (by decide) ?_
          rw [pl_end (fun q => ((kR_2 hB).mp q).elim c_17 (fun q => q.elim c_23 c_29))]
          exact ⟨rfl, hR, fun _ => hO.trans hO0.symm, hF⟩
theorem ct_compared {g : GT} {σ : S_} {B : Nat → Nat} {L u : Nat} (hL : L ≤ 60) (hB : ∀ j, j < L → B j < 256) {d ρ : Nat} {G : PT → Bool × PT} (hG : ∀ T, T.1 ≤ L → PQ L u T (G T)) (HG : ∀ (T : PT) (σ : S_), T.1 ≤ L → T.2.1 ≤ T.1 → RK B L u σ T → σ 70 6 = nI ρ → CT g d M_X8_sum [.ref 70] σ (PY B L u σ (G T))) {T : PT} (ha : T.1 ≤ L) (hn : T.2.1 ≤ T.1) (hR : RK B L u σ T) (hO : σ 70 6 = nI ρ) : CT g (d + 1) M_X8_compared [.ref 70] σ (PY B L u σ (if (G T).1 = true then pL B L G 2 61 (G T).2 else (false, (G T).2))) := by
  refine ct_of [.ref 70, .null] pn_X8_compared rfl (Nat.le_of_ble_eq_true rfl) ?_
  refine j_aload_n dX8_compared_0 (q := 1) rfl rfl ?_
  refine j_callVi0 (M' := M_X8_sum) lk_X8_94 mv_X8_sum ob_70 (by omega) (Nat.le_of_ble_eq_true rfl) dX8_compared_1 (q := 4) rfl (HG T σ ha hn hR hO) ?_
  intro x1 τ1 hz1
  obtain ⟨z1, hR1, hO1, hF1⟩ := hz1
  cases z1
  have hq := hG T ha
  obtain ⟨q1, q2, q3, q4, q5⟩ := hq.1
  refine j_ifneB dX8_compared_4 (t := 9) (by decide) (q := 7) rfl (fun c_4 => ?_) (fun c_4 => ?_)
  · skip
    rw [if_pos c_4]
    exact lcompared_loop hL hB hG HG hO 61 (G T).2 _ _ (by omega) q2 (by omega) hR1 ((hO1 c_4).trans hO) hF1
  · skip
    refine j_iconst (v := 0) dX8_compared_7 (q := 8) rfl (by decide) ?_
    refine j_iretz dX8_compared_8 rfl (by decide) ?_
    rw [if_neg c_4]
    exact ⟨rfl, hR1, fun q => absurd q Bool.false_ne_true, hF1⟩
theorem lboth_loop {g : GT} {B : Nat → Nat} {L u : Nat} (hL : L ≤ 60) (hB : ∀ j, j < L → B j < 256) {d ρ : Nat} {G : PT → Bool × PT} (hG : ∀ T, T.1 ≤ L → PQ L u T (G T)) (HG : ∀ (T : PT) (σ : S_), T.1 ≤ L → T.2.1 ≤ T.1 → RK B L u σ T → σ 70 6 = nI ρ → CT g d M_X8_compared [.ref 70] σ (PY B L u σ (G T))) {σ0 : S_} (hO0 : σ0 70 6 = nI ρ) : ∀ (k : Nat) (T : PT) (σ : S_), L < T.1 + k → T.1 ≤ L → T.2.1 ≤ T.1 → RK B L u σ T → σ 70 6 = nI ρ → FM σ0 σ → J g (d + 1) M_X8_both (PY B L u σ0 (pL B L G 1 k T)) 9 [.ref 70] [] σ := by
  intro k
  induction k with
  | zero =>
    intro T σ hk ha hn hR hO hF
    omega
  | succ k ih =>
    intro T σ hk ha hn hR hO hF
    have h1 := hR.1
    refine j_aload_n dX8_both_9 (q := 10) rfl rfl ?_
    refine j_callVi0E (M' := M_X8_look) lk_X8_83 mv_X8_look ob_70 (by omega) (Nat.le_of_ble_eq_true rfl) dX8_both_10 (q := 13) rfl (ct_rk_look (T := T) hL ha hR) ?_
    refine j_bipush (v := 38) dX8_both_13 (q := 15) rfl (by decide) ?_
    refine j_icmp_ne dX8_both_15 (t := 47) (by decide) (q := 18) rfl (fun c_15 => ?_) (fun c_15 => ?_)
    · skip
      refine j_iconst (v := 1) dX8_both_47 (q := 48) rfl (by decide) ?_
      refine j_iretz dX8_both_48 rfl (by decide) ?_
      rw [pl_end (fun q => c_15 ((kR_1 hB).mp q))]
      exact ⟨rfl, hR, fun _ => hO.trans hO0.symm, hF⟩
    · skip
      have hc : T.1 < L ∧ rkB (B T.1) = 1 := (kR_1 hB).mpr (by assumption)
      have hv : (38 : Int32) = nI (B T.1) := ((kR_1 hB).mp hc).symm.trans (kI_in hc.1)
      refine j_aload_n dX8_both_18 (q := 19) rfl rfl ?_
      refine j_dup dX8_both_19 (q := 20) rfl rfl ?_
      refine j_getIV fs_X8_69 rfl rfl h1 dX8_both_20 (q := 23) rfl ?_
      refine j_iconst (v := 1) dX8_both_23 (q := 24) rfl (by decide) ?_
      refine j_iaddN (b := 1) dX8_both_24 (q := 25) rfl ?_
      refine j_putI fs_X8_69 rfl rfl fp_8_5 dX8_both_25 (q := 28) rfl ?_
      refine j_aload_n dX8_both_28 (q := 29) rfl rfl ?_
      refine j_callVi0 (M' := M_X8_compared) lk_X8_91 mv_X8_compared ob_70 (by omega) (Nat.le_of_ble_eq_true rfl) dX8_both_29 (q := 32) rfl (HG (pNx T) _ (by show T.1 + 1 ≤ L; omega) (by show T.2.1 ≤ T.1 + 1; omega) (RK_nx hR) ((up_nk (by decide)).trans hO)) ?_
      intro x1 τ1 hz1
      obtain ⟨z1, hR1, hO1, hF1⟩ := hz1
      cases z1
      have hq := hG (pNx T) hc.1
      obtain ⟨q1, q2, q3, q4, q5⟩ := hq.1
      replace q1 : T.1 + 1 ≤ _ := q1
      replace q3 : T.2.1 ≤ _ := q3
      replace q4 : _ + (T.1 + 1) ≤ _ + T.2.1 := q4
      refine j_ifneB dX8_both_32 (t := 37) (by decide) (q := 35) rfl (fun c_32 => ?_) (fun c_32 => ?_)
      · skip
        refine j_aload_n dX8_both_37 (q := 38) rfl rfl ?_
        refine j_iconst (v := 3) dX8_both_38 (q := 39) rfl (by decide) ?_
        refine j_bipush (v := 38) dX8_both_39 (q := 41) rfl (by decide) ?_
        refine j_callVv2 (M' := M_X8_step1) lk_X8_87 mv_X8_step1 ob_70 (by omega) (Nat.le_of_ble_eq_true rfl) dX8_both_41 (q := 44) rfl (ct_rk_step1 (T := (G (pNx T)).2) hR1 (by omega)) ?_
        intro τ2 hz2
        obtain ⟨_, hR2, hO2, hF2⟩ := hz2
        rw [hv] at hR2
        refine j_goto (q := 9) dX8_both_44 (by decide) ?_
        rw [show pL B L G 1 (k + 1) T = pL B L G 1 k (pAdd 3 (nI (B T.1)) (G (pNx T)).2) from (if_pos hc).trans ((if_pos c_32).trans (if_neg (by decide)))]
        exact ih (pAdd 3 (nI (B T.1)) (G (pNx T)).2) _ (by show L < (G (pNx T)).2.1 + k; omega) q2 (by show (G (pNx T)).2.2.1 + 1 ≤ (G (pNx T)).2.1; omega) hR2 (hO2.trans ((hO1 c_32).trans ((up_nk (by decide)).trans hO))) (((hF.tr FM_5).tr hF1).tr hF2)
      · skip
        refine j_iconst (v := 0) dX8_both_35 (q := 36) rfl (by decide) ?_
        refine j_iretz dX8_both_36 rfl (by decide) ?_
        rw [show pL B L G 1 (k + 1) T = (false, (G (pNx T)).2) from (if_pos hc).trans (if_neg c_32)]
        exact ⟨rfl, hR1, fun q => absurd q Bool.false_ne_true, (hF.tr FM_5).tr hF1⟩
theorem ct_both {g : GT} {σ : S_} {B : Nat → Nat} {L u : Nat} (hL : L ≤ 60) (hB : ∀ j, j < L → B j < 256) {d ρ : Nat} {G : PT → Bool × PT} (hG : ∀ T, T.1 ≤ L → PQ L u T (G T)) (HG : ∀ (T : PT) (σ : S_), T.1 ≤ L → T.2.1 ≤ T.1 → RK B L u σ T → σ 70 6 = nI ρ → CT g d M_X8_compared [.ref 70] σ (PY B L u σ (G T))) {T : PT} (ha : T.1 ≤ L) (hn : T.2.1 ≤ T.1) (hR : RK B L u σ T) (hO : σ 70 6 = nI ρ) : CT g (d + 1) M_X8_both [.ref 70] σ (PY B L u σ (if (G T).1 = true then pL B L G 1 61 (G T).2 else (false, (G T).2))) := by
  refine ct_of [.ref 70] pn_X8_both rfl (Nat.le_of_ble_eq_true rfl) ?_
  refine j_aload_n dX8_both_0 (q := 1) rfl rfl ?_
  refine j_callVi0 (M' := M_X8_compared) lk_X8_91 mv_X8_compared ob_70 (by omega) (Nat.le_of_ble_eq_true rfl) dX8_both_1 (q := 4) rfl (HG T σ ha hn hR hO) ?_
  intro x1 τ1 hz1
  obtain ⟨z1, hR1, hO1, hF1⟩ := hz1
  cases z1
  have hq := hG T ha
  obtain ⟨q1, q2, q3, q4, q5⟩ := hq.1
  refine j_ifneB dX8_both_4 (t := 9) (by decide) (q := 7) rfl (fun c_4 => ?_) (fun c_4 => ?_)
  · skip
    rw [if_pos c_4]
    exact lboth_loop hL hB hG HG hO 61 (G T).2 _ (by omega) q2 (by omega) hR1 ((hO1 c_4).trans hO) hF1
  · skip
    refine j_iconst (v := 0) dX8_both_7 (q := 8) rfl (by decide) ?_
    refine j_iretz dX8_both_8 rfl (by decide) ?_
    rw [if_neg c_4]
    exact ⟨rfl, hR1, fun q => absurd q Bool.false_ne_true, hF1⟩
theorem lwhole_loop {g : GT} {B : Nat → Nat} {L u : Nat} (hL : L ≤ 60) (hB : ∀ j, j < L → B j < 256) {d ρ : Nat} {G : PT → Bool × PT} (hG : ∀ T, T.1 ≤ L → PQ L u T (G T)) (HG : ∀ (T : PT) (σ : S_), T.1 ≤ L → T.2.1 ≤ T.1 → RK B L u σ T → σ 70 6 = nI ρ → CT g d M_X8_both [.ref 70] σ (PY B L u σ (G T))) {σ0 : S_} (hO0 : σ0 70 6 = nI ρ) : ∀ (k : Nat) (T : PT) (σ : S_), L < T.1 + k → T.1 ≤ L → T.2.1 ≤ T.1 → RK B L u σ T → σ 70 6 = nI ρ → FM σ0 σ → J g (d + 1) M_X8_whole (PY B L u σ0 (pL B L G 0 k T)) 9 [.ref 70] [] σ := by
  intro k
  induction k with
  | zero =>
    intro T σ hk ha hn hR hO hF
    omega
  | succ k ih =>
    intro T σ hk ha hn hR hO hF
    have h1 := hR.1
    refine j_aload_n dX8_whole_9 (q := 10) rfl rfl ?_
    refine j_callVi0E (M' := M_X8_look) lk_X8_83 mv_X8_look ob_70 (by omega) (Nat.le_of_ble_eq_true rfl) dX8_whole_10 (q := 13) rfl (ct_rk_look (T := T) hL ha hR) ?_
    refine j_bipush (v := 124) dX8_whole_13 (q := 15) rfl (by decide) ?_
    refine j_icmp_ne dX8_whole_15 (t := 47) (by decide) (q := 18) rfl (fun c_15 => ?_) (fun c_15 => ?_)
    · skip
      refine j_iconst (v := 1) dX8_whole_47 (q := 48) rfl (by decide) ?_
      refine j_iretz dX8_whole_48 rfl (by decide) ?_
      rw [pl_end (fun q => c_15 ((kR_0 hB).mp q))]
      exact ⟨rfl, hR, fun _ => hO.trans hO0.symm, hF⟩
    · skip
      have hc : T.1 < L ∧ rkB (B T.1) = 0 := (kR_0 hB).mpr (by assumption)
      have hv : (124 : Int32) = nI (B T.1) := ((kR_0 hB).mp hc).symm.trans (kI_in hc.1)
      refine j_aload_n dX8_whole_18 (q := 19) rfl rfl ?_
      refine j_dup dX8_whole_19 (q := 20) rfl rfl ?_
      refine j_getIV fs_X8_69 rfl rfl h1 dX8_whole_20 (q := 23) rfl ?_
      refine j_iconst (v := 1) dX8_whole_23 (q := 24) rfl (by decide) ?_
      refine j_iaddN (b := 1) dX8_whole_24 (q := 25) rfl ?_
      refine j_putI fs_X8_69 rfl rfl fp_8_5 dX8_whole_25 (q := 28) rfl ?_
      refine j_aload_n dX8_whole_28 (q := 29) rfl rfl ?_
      refine j_callVi0 (M' := M_X8_both) lk_X8_79 mv_X8_both ob_70 (by omega) (Nat.le_of_ble_eq_true rfl) dX8_whole_29 (q := 32) rfl (HG (pNx T) _ (by show T.1 + 1 ≤ L; omega) (by show T.2.1 ≤ T.1 + 1; omega) (RK_nx hR) ((up_nk (by decide)).trans hO)) ?_
      intro x1 τ1 hz1
      obtain ⟨z1, hR1, hO1, hF1⟩ := hz1
      cases z1
      have hq := hG (pNx T) hc.1
      obtain ⟨q1, q2, q3, q4, q5⟩ := hq.1
      replace q1 : T.1 + 1 ≤ _ := q1
      replace q3 : T.2.1 ≤ _ := q3
      replace q4 : _ + (T.1 + 1) ≤ _ + T.2.1 := q4
      refine j_ifneB dX8_whole_32 (t := 37) (by decide) (q := 35) rfl (fun c_32 => ?_) (fun c_32 => ?_)
      · skip
        refine j_aload_n dX8_whole_37 (q := 38) rfl rfl ?_
        refine j_iconst (v := 3) dX8_whole_38 (q := 39) rfl (by decide) ?_
        refine j_bipush (v := 124) dX8_whole_39 (q := 41) rfl (by decide) ?_
        refine j_callVv2 (M' := M_X8_step1) lk_X8_87 mv_X8_step1 ob_70 (by omega) (Nat.le_of_ble_eq_true rfl) dX8_whole_41 (q := 44) rfl (ct_rk_step1 (T := (G (pNx T)).2) hR1 (by omega)) ?_
        intro τ2 hz2
        obtain ⟨_, hR2, hO2, hF2⟩ := hz2
        rw [hv] at hR2
        refine j_goto (q := 9) dX8_whole_44 (by decide) ?_
        rw [show pL B L G 0 (k + 1) T = pL B L G 0 k (pAdd 3 (nI (B T.1)) (G (pNx T)).2) from (if_pos hc).trans ((if_pos c_32).trans (if_neg (by decide)))]
        exact ih (pAdd 3 (nI (B T.1)) (G (pNx T)).2) _ (by show L < (G (pNx T)).2.1 + k; omega) q2 (by show (G (pNx T)).2.2.1 + 1 ≤ (G (pNx T)).2.1; omega) hR2 (hO2.trans ((hO1 c_32).trans ((up_nk (by decide)).trans hO))) (((hF.tr FM_5).tr hF1).tr hF2)
      · skip
        refine j_iconst (v := 0) dX8_whole_35 (q := 36) rfl (by decide) ?_
        refine j_iretz dX8_whole_36 rfl (by decide) ?_
        rw [show pL B L G 0 (k + 1) T = (false, (G (pNx T)).2) from (if_pos hc).trans (if_neg c_32)]
        exact ⟨rfl, hR1, fun q => absurd q Bool.false_ne_true, (hF.tr FM_5).tr hF1⟩
theorem ct_whole {g : GT} {σ : S_} {B : Nat → Nat} {L u : Nat} (hL : L ≤ 60) (hB : ∀ j, j < L → B j < 256) {d ρ : Nat} {G : PT → Bool × PT} (hG : ∀ T, T.1 ≤ L → PQ L u T (G T)) (HG : ∀ (T : PT) (σ : S_), T.1 ≤ L → T.2.1 ≤ T.1 → RK B L u σ T → σ 70 6 = nI ρ → CT g d M_X8_both [.ref 70] σ (PY B L u σ (G T))) {T : PT} (ha : T.1 ≤ L) (hn : T.2.1 ≤ T.1) (hR : RK B L u σ T) (hO : σ 70 6 = nI ρ) : CT g (d + 1) M_X8_whole [.ref 70] σ (PY B L u σ (if (G T).1 = true then pL B L G 0 61 (G T).2 else (false, (G T).2))) := by
  refine ct_of [.ref 70] pn_X8_whole rfl (Nat.le_of_ble_eq_true rfl) ?_
  refine j_aload_n dX8_whole_0 (q := 1) rfl rfl ?_
  refine j_callVi0 (M' := M_X8_both) lk_X8_79 mv_X8_both ob_70 (by omega) (Nat.le_of_ble_eq_true rfl) dX8_whole_1 (q := 4) rfl (HG T σ ha hn hR hO) ?_
  intro x1 τ1 hz1
  obtain ⟨z1, hR1, hO1, hF1⟩ := hz1
  cases z1
  have hq := hG T ha
  obtain ⟨q1, q2, q3, q4, q5⟩ := hq.1
  refine j_ifneB dX8_whole_4 (t := 9) (by decide) (q := 7) rfl (fun c_4 => ?_) (fun c_4 => ?_)
  · skip
    rw [if_pos c_4]
    exact lwhole_loop hL hB hG HG hO 61 (G T).2 _ (by omega) q2 (by omega) hR1 ((hO1 c_4).trans hO) hF1
  · skip
    refine j_iconst (v := 0) dX8_whole_7 (q := 8) rfl (by decide) ?_
    refine j_iretz dX8_whole_8 rfl (by decide) ?_
    rw [if_neg c_4]
    exact ⟨rfl, hR1, fun q => absurd q Bool.false_ne_true, hF1⟩
theorem who_of {g : GT} {B : Nat → Nat} {L u : Nat} (hL : L ≤ 60) (hB : ∀ j, j < L → B j < 256) (hu : u < 2) {e : Nat} (HO : ∀ (ρ : Nat), ρ + e = 5 → ∀ (T : PT) (σ : S_), T.1 ≤ L → T.2.1 ≤ T.1 → RK B L u σ T → σ 70 6 = nI ρ → CT g (6 * e + 2) M_X8_one [.ref 70] σ (PY B L u σ (pOn B L u e T))) : ∀ (ρ : Nat), ρ + e = 5 → ∀ (T : PT) (σ : S_), T.1 ≤ L → T.2.1 ≤ T.1 → RK B L u σ T → σ 70 6 = nI ρ → CT g (6 * e + 7) M_X8_whole [.ref 70] σ (PY B L u σ (pRk B L (pOn B L u e) 5 T)) := by
  intro ρ he
  have g0 : ∀ T : PT, T.1 ≤ L → PQ L u T (pRk B L (pOn B L u e) 0 T) := PQ_Rk (PQ_On hu e) 0
  have g1 : ∀ T : PT, T.1 ≤ L → PQ L u T (pRk B L (pOn B L u e) 1 T) := PQ_Rk (PQ_On hu e) 1
  have g2 : ∀ T : PT, T.1 ≤ L → PQ L u T (pRk B L (pOn B L u e) 2 T) := PQ_Rk (PQ_On hu e) 2
  have g3 : ∀ T : PT, T.1 ≤ L → PQ L u T (pRk B L (pOn B L u e) 3 T) := PQ_Rk (PQ_On hu e) 3
  have g4 : ∀ T : PT, T.1 ≤ L → PQ L u T (pRk B L (pOn B L u e) 4 T) := PQ_Rk (PQ_On hu e) 4
  exact fun T σ ha hn hR hO => ct_whole hL hB g4 (fun T σ ha hn hR hO => ct_both hL hB g3 (fun T σ ha hn hR hO => ct_compared hL hB g2 (fun T σ ha hn hR hO => ct_sum hL hB g1 (fun T σ ha hn hR hO => ct_product hL hB g0 (HO ρ he) ha hn hR hO) ha hn hR hO) ha hn hR hO) ha hn hR hO) ha hn hR hO
theorem onum_loop {g : GT} {B : Nat → Nat} {L u : Nat} (hL : L ≤ 60) (hB : ∀ j, j < L → B j < 256) {d : Nat} (hd : 1 ≤ d) {σ0 : S_} {T : Nat × (Nat → Int32) × (Nat → Int32)} (hn : T.1 ≤ 60) (v1 : Value) (h1c : v1.category = 1) : ∀ (k i a : Nat) (v : Int32) (σ : S_), i + k = 4 → a ≤ L → RK B L u σ (a, T) → σ 70 6 = σ0 70 6 → FM σ0 σ → J g d M_X8_one (PY B L u σ0 (true, pAdd 0 (pN B L k a v).2 ((pN B L k a v).1, T))) 46 [.ref 70, v1, .int v, .int (nI i)] [] σ := by
  intro k
  induction k with
  | zero =>
    intro i a v σ hik ha hR hO hF
    refine j_iload_n dX8_one_46 (q := 47) rfl rfl ?_
    refine j_iconst (v := 4) dX8_one_47 (q := 48) rfl (by decide) ?_
    refine j_icmp_geN (b := 4) (by omega) (by omega) dX8_one_48 (t := 94) (by decide) (q := 51) rfl (fun c_48 => ?_) (fun c_48 => ?_)
    · skip
      refine j_aload_n dX8_one_94 (q := 95) rfl rfl ?_
      refine j_iconst (v := 0) dX8_one_95 (q := 96) rfl (by decide) ?_
      refine j_iload_n dX8_one_96 (q := 97) rfl rfl ?_
      refine j_callVv2 (M' := M_X8_step1) lk_X8_87 mv_X8_step1 ob_70 (by omega) (Nat.le_of_ble_eq_true rfl) dX8_one_97 (q := 100) rfl (ct_rk_step1 (T := (a, T)) hR hn) ?_
      intro τ2 hz2
      obtain ⟨_, hR2, hO2, hF2⟩ := hz2
      refine j_iconst (v := 1) dX8_one_100 (q := 101) rfl (by decide) ?_
      refine j_iretz dX8_one_101 rfl (by decide) ?_
      exact ⟨rfl, hR2, fun _ => hO2.trans hO, hF.tr hF2⟩
    · skip
      omega
  | succ k ih =>
    intro i a v σ hik ha hR hO hF
    refine j_iload_n dX8_one_46 (q := 47) rfl rfl ?_
    refine j_iconst (v := 4) dX8_one_47 (q := 48) rfl (by decide) ?_
    refine j_icmp_geN (b := 4) (by omega) (by omega) dX8_one_48 (t := 94) (by decide) (q := 51) rfl (fun c_48 => ?_) (fun c_48 => ?_)
    · skip
      omega
    · skip
      refine j_aload_n dX8_one_51 (q := 52) rfl rfl ?_
      refine j_callVi0E (M' := M_X8_look) lk_X8_83 mv_X8_look ob_70 (by omega) (Nat.le_of_ble_eq_true rfl) dX8_one_52 (q := 55) rfl (ct_rk_look (T := (a, T)) hL ha hR) ?_
      refine j_bipush (v := 48) dX8_one_55 (q := 57) rfl (by decide) ?_
      refine j_bipush (v := 57) dX8_one_57 (q := 59) rfl (by decide) ?_
      refine j_callSi3E (M' := M_X8_in) lk_X8_59 ms_X8_in (by omega) (Nat.le_of_ble_eq_true rfl) dX8_one_59 (q := 62) rfl (ct_X8_in) ?_
      refine j_ifeqB dX8_one_62 (t := 94) (by decide) (q := 65) rfl (fun c_62 => ?_) (fun c_62 => ?_)
      · skip
        refine j_bipush (v := 10) dX8_one_65 (q := 67) rfl (by decide) ?_
        refine j_iload_n dX8_one_67 (q := 68) rfl rfl ?_
        refine j_imul dX8_one_68 (q := 69) rfl ?_
        refine j_aload_n dX8_one_69 (q := 70) rfl rfl ?_
        refine j_callVi0E (M' := M_X8_look) lk_X8_83 mv_X8_look ob_70 (by omega) (Nat.le_of_ble_eq_true rfl) dX8_one_70 (q := 73) rfl (ct_rk_look (T := (a, T)) hL ha hR) ?_
        refine j_iadd dX8_one_73 (q := 74) rfl ?_
        refine j_bipush (v := 48) dX8_one_74 (q := 76) rfl (by decide) ?_
        refine j_isub dX8_one_76 (q := 77) rfl ?_
        refine j_istore_n_4_2 dX8_one_77 (q := 78) rfl rfl h1c ?_
        refine j_aload_n dX8_one_78 (q := 79) rfl rfl ?_
        refine j_dup dX8_one_79 (q := 80) rfl rfl ?_
        refine j_getIV fs_X8_69 rfl rfl hR.1 dX8_one_80 (q := 83) rfl ?_
        refine j_iconst (v := 1) dX8_one_83 (q := 84) rfl (by decide) ?_
        refine j_iaddN (b := 1) dX8_one_84 (q := 85) rfl ?_
        refine j_putI fs_X8_69 rfl rfl fp_8_5 dX8_one_85 (q := 88) rfl ?_
        refine j_iincN_4_3 dX8_one_88 (q := 91) rfl rfl rfl ?_
        refine j_goto (q := 46) dX8_one_91 (by decide) ?_
        have hdg := (kI_dg hB).mp c_62
        rw [show pN B L (k + 1) a v = pN B L k (a + 1) (10 * v + nI (B a) - 48) from if_pos hdg, kI_in hdg.1]
        exact ih (i + 1) (a + 1) _ _ (by omega) (by omega) (RK_nx hR) ((up_nk (by decide)).trans hO) (hF.tr FM_5)
      · skip
        refine j_aload_n dX8_one_94 (q := 95) rfl rfl ?_
        refine j_iconst (v := 0) dX8_one_95 (q := 96) rfl (by decide) ?_
        refine j_iload_n dX8_one_96 (q := 97) rfl rfl ?_
        refine j_callVv2 (M' := M_X8_step1) lk_X8_87 mv_X8_step1 ob_70 (by omega) (Nat.le_of_ble_eq_true rfl) dX8_one_97 (q := 100) rfl (ct_rk_step1 (T := (a, T)) hR hn) ?_
        intro τ2 hz2
        obtain ⟨_, hR2, hO2, hF2⟩ := hz2
        refine j_iconst (v := 1) dX8_one_100 (q := 101) rfl (by decide) ?_
        refine j_iretz dX8_one_101 rfl (by decide) ?_
        rw [show pN B L (k + 1) a v = (a, v) from if_neg (fun q => c_62 ((kI_dg hB).mpr q))]
        exact ⟨rfl, hR2, fun _ => hO2.trans hO, hF.tr hF2⟩
theorem if_both {p : Prop} {i : Decidable p} {α : Type} (x : α) : (if p then x else x) = x := by split <;> rfl
theorem ct_on_0 {g : GT} {σ : S_} {B : Nat → Nat} {L u : Nat} (hL : L ≤ 60) (hB : ∀ j, j < L → B j < 256) {ρ : Nat} (he : ρ = 5) (hu : u < 2) {T : PT} (ha : T.1 ≤ L) (hn : T.2.1 ≤ T.1) (hR : RK B L u σ T) (hO : σ 70 6 = nI ρ) : CT g 2 M_X8_one [.ref 70] σ (PY B L u σ (pOn B L u 0 T)) := by
  refine ct_of [.ref 70, .null, .null, .null] pn_X8_one rfl (Nat.le_of_ble_eq_true rfl) ?_
  refine j_aload_n dX8_one_0 (q := 1) rfl rfl ?_
  refine j_callVi0E (M' := M_X8_look) lk_X8_83 mv_X8_look ob_70 (by omega) (Nat.le_of_ble_eq_true rfl) dX8_one_1 (q := 4) rfl (ct_rk_look (T := T) hL ha hR) ?_
  refine j_istore_n_4_1 dX8_one_4 (q := 5) rfl rfl rfl ?_
  refine j_aload_n dX8_one_5 (q := 6) rfl rfl ?_
  refine j_iload_n dX8_one_6 (q := 7) rfl rfl ?_
  refine j_callVi1E (M' := M_X8_isName) lk_X8_106 mv_X8_isName ob_70 (by omega) (Nat.le_of_ble_eq_true rfl) dX8_one_7 (q := 10) rfl (ct_X8_isName hu hR.2.2.2.2.2) ?_
  refine j_ifeqB dX8_one_10 (t := 31) (by decide) (q := 13) rfl (fun c_10 => ?_) (fun c_10 => ?_)
  · skip
    refine j_aload_n dX8_one_13 (q := 14) rfl rfl ?_
    refine j_dup dX8_one_14 (q := 15) rfl rfl ?_
    refine j_getIV fs_X8_69 rfl rfl hR.1 dX8_one_15 (q := 18) rfl ?_
    refine j_iconst (v := 1) dX8_one_18 (q := 19) rfl (by decide) ?_
    refine j_iaddN (b := 1) dX8_one_19 (q := 20) rfl ?_
    refine j_putI fs_X8_69 rfl rfl fp_8_5 dX8_one_20 (q := 23) rfl ?_
    refine j_aload_n dX8_one_23 (q := 24) rfl rfl ?_
    refine j_iconst (v := 1) dX8_one_24 (q := 25) rfl (by decide) ?_
    refine j_iload_n dX8_one_25 (q := 26) rfl rfl ?_
    refine j_callVv2 (M' := M_X8_step1) lk_X8_87 mv_X8_step1 ob_70 (by omega) (Nat.le_of_ble_eq_true rfl) dX8_one_26 (q := 29) rfl (ct_rk_step1 (T := (pNx T)) (RK_nx hR) (by show T.2.1 ≤ 60; omega)) ?_
    intro τ2 hz2
    obtain ⟨_, hR2, hO2, hF2⟩ := hz2
    refine j_iconst (v := 1) dX8_one_29 (q := 30) rfl (by decide) ?_
    refine j_iretz dX8_one_30 rfl (by decide) ?_
    have hnm := (kI_nm hB hu).mp c_10
    rw [kI_in hnm.1] at hR2
    rw [show pOn B L u 0 T = (true, pAdd 1 (nI (B T.1)) (pNx T)) from by show pLf B L u _ T = _; unfold pLf; rw [if_pos hnm.1, if_neg (ix_nd hnm.2), if_pos hnm.2]]
    exact ⟨rfl, hR2, fun _ => hO2.trans (up_nk (by decide)), FM_5.tr hF2⟩
  · skip
    refine j_iload_n dX8_one_31 (q := 32) rfl rfl ?_
    refine j_bipush (v := 48) dX8_one_32 (q := 34) rfl (by decide) ?_
    refine j_bipush (v := 57) dX8_one_34 (q := 36) rfl (by decide) ?_
    refine j_callSi3E (M' := M_X8_in) lk_X8_59 ms_X8_in (by omega) (Nat.le_of_ble_eq_true rfl) dX8_one_36 (q := 39) rfl (ct_X8_in) ?_
    refine j_ifeqB dX8_one_39 (t := 102) (by decide) (q := 42) rfl (fun c_39 => ?_) (fun c_39 => ?_)
    · skip
      refine j_iconst (v := 0) dX8_one_42 (q := 43) rfl (by decide) ?_
      refine j_istore_n_4_2 dX8_one_43 (q := 44) rfl rfl rfl ?_
      refine j_iconst (v := 0) dX8_one_44 (q := 45) rfl (by decide) ?_
      refine j_istore_n_4_3 dX8_one_45 (q := 46) rfl rfl rfl ?_
      have hdg := (kI_dg hB).mp c_39
      rw [show pOn B L u 0 T = (true, pAdd 0 (pN B L 4 T.1 0).2 ((pN B L 4 T.1 0).1, T.2)) from by show pLf B L u _ T = _; unfold pLf; rw [if_pos hdg.1, if_pos hdg.2]]
      exact onum_loop hL hB (by omega) (T := T.2) (by omega) _ rfl 4 0 T.1 0 _ (by decide) ha hR rfl FM.rf
    · skip
      refine j_iload_n dX8_one_102 (q := 103) rfl rfl ?_
      refine j_bipush (v := 33) dX8_one_103 (q := 105) rfl (by decide) ?_
      refine j_icmp_ne dX8_one_105 (t := 142) (by decide) (q := 108) rfl (fun c_105 => ?_) (fun c_105 => ?_)
      · skip
        refine j_iload_n dX8_one_142 (q := 143) rfl rfl ?_
        refine j_bipush (v := 40) dX8_one_143 (q := 145) rfl (by decide) ?_
        refine j_icmp_ne dX8_one_145 (t := 171) (by decide) (q := 148) rfl (fun c_145 => ?_) (fun c_145 => ?_)
        · skip
          refine j_iconst (v := 0) dX8_one_171 (q := 172) rfl (by decide) ?_
          refine j_iretz dX8_one_172 rfl (by decide) ?_
          have n1 : ¬ (T.1 < L ∧ ixQ u (B T.1) < 3) := fun q => c_10 ((kI_nm hB hu).mpr q)
          have n2 : ¬ (T.1 < L ∧ 48 ≤ B T.1 ∧ B T.1 ≤ 57) := fun q => c_39 ((kI_dg hB).mpr q)
          rw [show pOn B L u 0 T = (false, T) from by show pLf B L u (false, T) T = _; rw [pLf_else n2 n1]; exact if_both _]
          exact ⟨rfl, hR, fun q => absurd q Bool.false_ne_true, FM.rf⟩
        · skip
          refine j_aload_n dX8_one_148 (q := 149) rfl rfl ?_
          refine j_callVi0E (M' := M_X8_opens) lk_X8_110 mv_X8_opens ob_70 (by omega) (Nat.le_of_ble_eq_true rfl) dX8_one_149 (q := 152) rfl (ct_opens_no (he ▸ hO)) ?_
          refine j_ifeqB dX8_one_152 (t := 171) (by decide) (q := 155) rfl (fun c_152 => ?_) (fun c_152 => ?_)
          · skip
            exact absurd c_152 (fun h => h)
          · skip
            refine j_iconst (v := 0) dX8_one_171 (q := 172) rfl (by decide) ?_
            refine j_iretz dX8_one_172 rfl (by decide) ?_
            have n1 : ¬ (T.1 < L ∧ ixQ u (B T.1) < 3) := fun q => c_10 ((kI_nm hB hu).mpr q)
            have n2 : ¬ (T.1 < L ∧ 48 ≤ B T.1 ∧ B T.1 ≤ 57) := fun q => c_39 ((kI_dg hB).mpr q)
            rw [show pOn B L u 0 T = (false, T) from by show pLf B L u (false, T) T = _; rw [pLf_else n2 n1]; exact if_both _]
            exact ⟨rfl, hR, fun q => absurd q Bool.false_ne_true, FM.rf⟩
      · skip
        refine j_aload_n dX8_one_108 (q := 109) rfl rfl ?_
        refine j_callVi0E (M' := M_X8_opens) lk_X8_110 mv_X8_opens ob_70 (by omega) (Nat.le_of_ble_eq_true rfl) dX8_one_109 (q := 112) rfl (ct_opens_no (he ▸ hO)) ?_
        refine j_ifeqB dX8_one_112 (t := 122) (by decide) (q := 115) rfl (fun c_112 => ?_) (fun c_112 => ?_)
        · skip
          exact absurd c_112 (fun h => h)
        · skip
          refine j_iconst (v := 0) dX8_one_122 (q := 123) rfl (by decide) ?_
          refine j_iretz dX8_one_123 rfl (by decide) ?_
          have n1 : ¬ (T.1 < L ∧ ixQ u (B T.1) < 3) := fun q => c_10 ((kI_nm hB hu).mpr q)
          have n2 : ¬ (T.1 < L ∧ 48 ≤ B T.1 ∧ B T.1 ≤ 57) := fun q => c_39 ((kI_dg hB).mpr q)
          rw [show pOn B L u 0 T = (false, T) from by show pLf B L u (false, T) T = _; rw [pLf_else n2 n1]; exact if_both _]
          exact ⟨rfl, hR, fun q => absurd q Bool.false_ne_true, FM.rf⟩
theorem ct_on_s {g : GT} {σ : S_} {B : Nat → Nat} {L u : Nat} (hL : L ≤ 60) (hB : ∀ j, j < L → B j < 256) {e : Nat} (HO : ∀ (ρ : Nat), ρ + e = 5 → ∀ (T : PT) (σ : S_), T.1 ≤ L → T.2.1 ≤ T.1 → RK B L u σ T → σ 70 6 = nI ρ → CT g (6 * e + 2) M_X8_one [.ref 70] σ (PY B L u σ (pOn B L u e T))) (HW : ∀ (ρ : Nat), ρ + e = 5 → ∀ (T : PT) (σ : S_), T.1 ≤ L → T.2.1 ≤ T.1 → RK B L u σ T → σ 70 6 = nI ρ → CT g (6 * e + 7) M_X8_whole [.ref 70] σ (PY B L u σ (pRk B L (pOn B L u e) 5 T))) {ρ : Nat} (he : ρ + (e + 1) = 5) (hu : u < 2) {T : PT} (ha : T.1 ≤ L) (hn : T.2.1 ≤ T.1) (hR : RK B L u σ T) (hO : σ 70 6 = nI ρ) : CT g (6 * (e + 1) + 2) M_X8_one [.ref 70] σ (PY B L u σ (pOn B L u (e + 1) T)) := by
  have ox : σ 70 6 = nI ρ → (up (up σ 70 6 (nI (ρ + 1))) 70 5 (nI (T.1 + 1))) 70 6 = nI (ρ + 1) := fun _ => (up_nk (by decide)).trans up_at
  refine ct_of [.ref 70, .null, .null, .null] pn_X8_one rfl (Nat.le_of_ble_eq_true rfl) ?_
  refine j_aload_n dX8_one_0 (q := 1) rfl rfl ?_
  refine j_callVi0E (M' := M_X8_look) lk_X8_83 mv_X8_look ob_70 (by omega) (Nat.le_of_ble_eq_true rfl) dX8_one_1 (q := 4) rfl (ct_rk_look (T := T) hL ha hR) ?_
  refine j_istore_n_4_1 dX8_one_4 (q := 5) rfl rfl rfl ?_
  refine j_aload_n dX8_one_5 (q := 6) rfl rfl ?_
  refine j_iload_n dX8_one_6 (q := 7) rfl rfl ?_
  refine j_callVi1E (M' := M_X8_isName) lk_X8_106 mv_X8_isName ob_70 (by omega) (Nat.le_of_ble_eq_true rfl) dX8_one_7 (q := 10) rfl (ct_X8_isName hu hR.2.2.2.2.2) ?_
  refine j_ifeqB dX8_one_10 (t := 31) (by decide) (q := 13) rfl (fun c_10 => ?_) (fun c_10 => ?_)
  · skip
    refine j_aload_n dX8_one_13 (q := 14) rfl rfl ?_
    refine j_dup dX8_one_14 (q := 15) rfl rfl ?_
    refine j_getIV fs_X8_69 rfl rfl hR.1 dX8_one_15 (q := 18) rfl ?_
    refine j_iconst (v := 1) dX8_one_18 (q := 19) rfl (by decide) ?_
    refine j_iaddN (b := 1) dX8_one_19 (q := 20) rfl ?_
    refine j_putI fs_X8_69 rfl rfl fp_8_5 dX8_one_20 (q := 23) rfl ?_
    refine j_aload_n dX8_one_23 (q := 24) rfl rfl ?_
    refine j_iconst (v := 1) dX8_one_24 (q := 25) rfl (by decide) ?_
    refine j_iload_n dX8_one_25 (q := 26) rfl rfl ?_
    refine j_callVv2 (M' := M_X8_step1) lk_X8_87 mv_X8_step1 ob_70 (by omega) (Nat.le_of_ble_eq_true rfl) dX8_one_26 (q := 29) rfl (ct_rk_step1 (T := (pNx T)) (RK_nx hR) (by show T.2.1 ≤ 60; omega)) ?_
    intro τ2 hz2
    obtain ⟨_, hR2, hO2, hF2⟩ := hz2
    refine j_iconst (v := 1) dX8_one_29 (q := 30) rfl (by decide) ?_
    refine j_iretz dX8_one_30 rfl (by decide) ?_
    have hnm := (kI_nm hB hu).mp c_10
    rw [kI_in hnm.1] at hR2
    rw [show pOn B L u (e + 1) T = (true, pAdd 1 (nI (B T.1)) (pNx T)) from by show pLf B L u _ T = _; unfold pLf; rw [if_pos hnm.1, if_neg (ix_nd hnm.2), if_pos hnm.2]]
    exact ⟨rfl, hR2, fun _ => hO2.trans (up_nk (by decide)), FM_5.tr hF2⟩
  · skip
    refine j_iload_n dX8_one_31 (q := 32) rfl rfl ?_
    refine j_bipush (v := 48) dX8_one_32 (q := 34) rfl (by decide) ?_
    refine j_bipush (v := 57) dX8_one_34 (q := 36) rfl (by decide) ?_
    refine j_callSi3E (M' := M_X8_in) lk_X8_59 ms_X8_in (by omega) (Nat.le_of_ble_eq_true rfl) dX8_one_36 (q := 39) rfl (ct_X8_in) ?_
    refine j_ifeqB dX8_one_39 (t := 102) (by decide) (q := 42) rfl (fun c_39 => ?_) (fun c_39 => ?_)
    · skip
      refine j_iconst (v := 0) dX8_one_42 (q := 43) rfl (by decide) ?_
      refine j_istore_n_4_2 dX8_one_43 (q := 44) rfl rfl rfl ?_
      refine j_iconst (v := 0) dX8_one_44 (q := 45) rfl (by decide) ?_
      refine j_istore_n_4_3 dX8_one_45 (q := 46) rfl rfl rfl ?_
      have hdg := (kI_dg hB).mp c_39
      rw [show pOn B L u (e + 1) T = (true, pAdd 0 (pN B L 4 T.1 0).2 ((pN B L 4 T.1 0).1, T.2)) from by show pLf B L u _ T = _; unfold pLf; rw [if_pos hdg.1, if_pos hdg.2]]
      exact onum_loop hL hB (by omega) (T := T.2) (by omega) _ rfl 4 0 T.1 0 _ (by decide) ha hR rfl FM.rf
    · skip
      refine j_iload_n dX8_one_102 (q := 103) rfl rfl ?_
      refine j_bipush (v := 33) dX8_one_103 (q := 105) rfl (by decide) ?_
      refine j_icmp_ne dX8_one_105 (t := 142) (by decide) (q := 108) rfl (fun c_105 => ?_) (fun c_105 => ?_)
      · skip
        refine j_iload_n dX8_one_142 (q := 143) rfl rfl ?_
        refine j_bipush (v := 40) dX8_one_143 (q := 145) rfl (by decide) ?_
        refine j_icmp_ne dX8_one_145 (t := 171) (by decide) (q := 148) rfl (fun c_145 => ?_) (fun c_145 => ?_)
        · skip
          refine j_iconst (v := 0) dX8_one_171 (q := 172) rfl (by decide) ?_
          refine j_iretz dX8_one_172 rfl (by decide) ?_
          have n1 : ¬ (T.1 < L ∧ ixQ u (B T.1) < 3) := fun q => c_10 ((kI_nm hB hu).mpr q)
          have n2 : ¬ (T.1 < L ∧ 48 ≤ B T.1 ∧ B T.1 ≤ 57) := fun q => c_39 ((kI_dg hB).mpr q)
          have hb0 : T.1 < L → ¬ B T.1 = 33 := fun h q => c_105 ((kI_eq hB (c := 33) (by decide)).mpr ⟨h, q⟩)
          have hb1 : T.1 < L → ¬ B T.1 = 40 := fun h q => c_145 ((kI_eq hB (c := 40) (by decide)).mpr ⟨h, q⟩)
          rw [show pOn B L u (e + 1) T = (false, T) from by
            show pLf B L u _ T = _
            rw [pLf_else n2 n1]
            by_cases h : T.1 < L
            · rw [if_pos h, if_neg (hb0 h), if_neg (hb1 h)]
            · rw [if_neg h]]
          exact ⟨rfl, hR, fun q => absurd q Bool.false_ne_true, FM.rf⟩
        · skip
          refine j_aload_n dX8_one_148 (q := 149) rfl rfl ?_
          refine j_callVi0E (M' := M_X8_opens) lk_X8_110 mv_X8_opens ob_70 (by omega) (Nat.le_of_ble_eq_true rfl) dX8_one_149 (q := 152) rfl (ct_opens_ok hR he hO) ?_
          refine j_ifeqB dX8_one_152 (t := 171) (by decide) (q := 155) rfl (fun c_152 => ?_) (fun c_152 => ?_)
          · skip
            refine j_aload_n dX8_one_155 (q := 156) rfl rfl ?_
            refine j_callVi0 (M' := M_X8_whole) lk_X8_113 mv_X8_whole ob_70 (by omega) (Nat.le_of_ble_eq_true rfl) dX8_one_156 (q := 159) rfl (HW (ρ + 1) (by omega) (pNx T) _ (by show T.1 + 1 ≤ L; have hb := (kI_eq hB (c := 40) (by decide)).mp c_145; omega) (by show T.2.1 ≤ T.1 + 1; omega) (RK_nx (RK_op hR)) ((up_nk (by decide)).trans up_at)) ?_
            intro x1 τ1 hz1
            obtain ⟨z1, hR1, hO1, hF1⟩ := hz1
            cases z1
            have hq := (PQ_Rk (B := B) (PQ_On (B := B) hu e) 5 (pNx T) (by show T.1 + 1 ≤ L; have hb := (kI_eq hB (c := 40) (by decide)).mp c_145; omega)).1
            obtain ⟨q1, q2, q3, q4, q5⟩ := hq
            replace q1 : T.1 + 1 ≤ _ := q1
            replace q3 : T.2.1 ≤ _ := q3
            replace q4 : _ + (T.1 + 1) ≤ _ + T.2.1 := q4
            refine j_ifeqB dX8_one_159 (t := 171) (by decide) (q := 162) rfl (fun c_159 => ?_) (fun c_159 => ?_)
            · skip
              refine j_aload_n dX8_one_162 (q := 163) rfl rfl ?_
              refine j_callVi0E (M' := M_X8_look) lk_X8_83 mv_X8_look ob_70 (by omega) (Nat.le_of_ble_eq_true rfl) dX8_one_163 (q := 166) rfl (ct_rk_look (T := (pRk B L (pOn B L u e) 5 (pNx T)).2) hL q2 hR1) ?_
              refine j_bipush (v := 41) dX8_one_166 (q := 168) rfl (by decide) ?_
              refine j_icmp_eq dX8_one_168 (t := 173) (by decide) (q := 171) rfl (fun c_168 => ?_) (fun c_168 => ?_)
              · skip
                refine j_aload_n dX8_one_173 (q := 174) rfl rfl ?_
                refine j_dup dX8_one_174 (q := 175) rfl rfl ?_
                refine j_getIV fs_X8_69 rfl rfl hR1.1 dX8_one_175 (q := 178) rfl ?_
                refine j_iconst (v := 1) dX8_one_178 (q := 179) rfl (by decide) ?_
                refine j_iaddN (b := 1) dX8_one_179 (q := 180) rfl ?_
                refine j_putI fs_X8_69 rfl rfl fp_8_5 dX8_one_180 (q := 183) rfl ?_
                refine j_aload_n dX8_one_183 (q := 184) rfl rfl ?_
                refine j_dup dX8_one_184 (q := 185) rfl rfl ?_
                refine j_getIV fs_X8_103 rfl rfl ((up_nk (by decide)).trans ((hO1 c_159).trans (ox hO))) dX8_one_185 (q := 188) rfl ?_
                refine j_iconst (v := 1) dX8_one_188 (q := 189) rfl (by decide) ?_
                refine j_isubN (b := 1) (by omega) dX8_one_189 (q := 190) rfl ?_
                refine j_putI fs_X8_103 rfl rfl fp_8_6 dX8_one_190 (q := 193) rfl ?_
                refine j_iconst (v := 1) dX8_one_193 (q := 194) rfl (by decide) ?_
                refine j_iretz dX8_one_194 rfl (by decide) ?_
                have n1 : ¬ (T.1 < L ∧ ixQ u (B T.1) < 3) := fun q => c_10 ((kI_nm hB hu).mpr q)
                have n2 : ¬ (T.1 < L ∧ 48 ≤ B T.1 ∧ B T.1 ≤ 57) := fun q => c_39 ((kI_dg hB).mpr q)
                have hb0 : T.1 < L → ¬ B T.1 = 33 := fun h q => c_105 ((kI_eq hB (c := 33) (by decide)).mpr ⟨h, q⟩)
                have hb := (kI_eq hB (c := 40) (by decide)).mp c_145
                have h41 := (kI_eq hB (c := 41) (by decide)).mp c_168
                rw [show pOn B L u (e + 1) T = (true, pNx (pRk B L (pOn B L u e) 5 (pNx T)).2) from by show pLf B L u _ T = _; rw [pLf_else n2 n1, if_pos hb.1, if_neg (hb0 hb.1), if_pos hb.2, if_pos c_159, if_pos h41]]
                exact ⟨rfl, RK_op (RK_nx hR1), fun _ => up_at.trans hO.symm, ((((FM_6.tr FM_5).tr hF1).tr FM_5).tr FM_6)⟩
              · skip
                refine j_iconst (v := 0) dX8_one_171 (q := 172) rfl (by decide) ?_
                refine j_iretz dX8_one_172 rfl (by decide) ?_
                have n1 : ¬ (T.1 < L ∧ ixQ u (B T.1) < 3) := fun q => c_10 ((kI_nm hB hu).mpr q)
                have n2 : ¬ (T.1 < L ∧ 48 ≤ B T.1 ∧ B T.1 ≤ 57) := fun q => c_39 ((kI_dg hB).mpr q)
                have hb0 : T.1 < L → ¬ B T.1 = 33 := fun h q => c_105 ((kI_eq hB (c := 33) (by decide)).mpr ⟨h, q⟩)
                have hb := (kI_eq hB (c := 40) (by decide)).mp c_145
                have h41 : ¬ (_ ∧ _) := fun q => c_168 ((kI_eq hB (c := 41) (by decide)).mpr q)
                rw [show pOn B L u (e + 1) T = (false, (pRk B L (pOn B L u e) 5 (pNx T)).2) from by show pLf B L u _ T = _; rw [pLf_else n2 n1, if_pos hb.1, if_neg (hb0 hb.1), if_pos hb.2, if_pos c_159, if_neg h41]]
                exact ⟨rfl, hR1, fun q => absurd q Bool.false_ne_true, (FM_6.tr FM_5).tr hF1⟩
            · skip
              refine j_iconst (v := 0) dX8_one_171 (q := 172) rfl (by decide) ?_
              refine j_iretz dX8_one_172 rfl (by decide) ?_
              have n1 : ¬ (T.1 < L ∧ ixQ u (B T.1) < 3) := fun q => c_10 ((kI_nm hB hu).mpr q)
              have n2 : ¬ (T.1 < L ∧ 48 ≤ B T.1 ∧ B T.1 ≤ 57) := fun q => c_39 ((kI_dg hB).mpr q)
              have hb0 : T.1 < L → ¬ B T.1 = 33 := fun h q => c_105 ((kI_eq hB (c := 33) (by decide)).mpr ⟨h, q⟩)
              have hb := (kI_eq hB (c := 40) (by decide)).mp c_145
              rw [show pOn B L u (e + 1) T = (false, (pRk B L (pOn B L u e) 5 (pNx T)).2) from by show pLf B L u _ T = _; rw [pLf_else n2 n1, if_pos hb.1, if_neg (hb0 hb.1), if_pos hb.2, if_neg c_159]]
              exact ⟨rfl, hR1, fun q => absurd q Bool.false_ne_true, (FM_6.tr FM_5).tr hF1⟩
          · skip
            exact absurd trivial c_152
      · skip
        refine j_aload_n dX8_one_108 (q := 109) rfl rfl ?_
        refine j_callVi0E (M' := M_X8_opens) lk_X8_110 mv_X8_opens ob_70 (by omega) (Nat.le_of_ble_eq_true rfl) dX8_one_109 (q := 112) rfl (ct_opens_ok hR he hO) ?_
        refine j_ifeqB dX8_one_112 (t := 122) (by decide) (q := 115) rfl (fun c_112 => ?_) (fun c_112 => ?_)
        · skip
          refine j_aload_n dX8_one_115 (q := 116) rfl rfl ?_
          refine j_callVi0 (M' := M_X8_one) lk_X8_100 mv_X8_one ob_70 (by omega) (Nat.le_of_ble_eq_true rfl) dX8_one_116 (q := 119) rfl (HO (ρ + 1) (by omega) (pNx T) _ (by show T.1 + 1 ≤ L; have hb := (kI_eq hB (c := 33) (by decide)).mp c_105; omega) (by show T.2.1 ≤ T.1 + 1; omega) (RK_nx (RK_op hR)) ((up_nk (by decide)).trans up_at)) ?_
          intro x1 τ1 hz1
          obtain ⟨z1, hR1, hO1, hF1⟩ := hz1
          cases z1
          have hq := (PQ_On (B := B) hu e (pNx T) (by show T.1 + 1 ≤ L; have hb := (kI_eq hB (c := 33) (by decide)).mp c_105; omega)).1
          obtain ⟨q1, q2, q3, q4, q5⟩ := hq
          replace q1 : T.1 + 1 ≤ _ := q1
          replace q3 : T.2.1 ≤ _ := q3
          replace q4 : _ + (T.1 + 1) ≤ _ + T.2.1 := q4
          refine j_ifneB dX8_one_119 (t := 124) (by decide) (q := 122) rfl (fun c_119 => ?_) (fun c_119 => ?_)
          · skip
            refine j_aload_n dX8_one_124 (q := 125) rfl rfl ?_
            refine j_dup dX8_one_125 (q := 126) rfl rfl ?_
            refine j_getIV fs_X8_103 rfl rfl ((hO1 c_119).trans (ox hO)) dX8_one_126 (q := 129) rfl ?_
            refine j_iconst (v := 1) dX8_one_129 (q := 130) rfl (by decide) ?_
            refine j_isubN (b := 1) (by omega) dX8_one_130 (q := 131) rfl ?_
            refine j_putI fs_X8_103 rfl rfl fp_8_6 dX8_one_131 (q := 134) rfl ?_
            refine j_aload_n dX8_one_134 (q := 135) rfl rfl ?_
            refine j_iconst (v := 2) dX8_one_135 (q := 136) rfl (by decide) ?_
            refine j_iconst (v := 0) dX8_one_136 (q := 137) rfl (by decide) ?_
            refine j_callVv2 (M' := M_X8_step1) lk_X8_87 mv_X8_step1 ob_70 (by omega) (Nat.le_of_ble_eq_true rfl) dX8_one_137 (q := 140) rfl (ct_rk_step1 (T := (pOn B L u e (pNx T)).2) (RK_op hR1) (by omega)) ?_
            intro τ2 hz2
            obtain ⟨_, hR2, hO2, hF2⟩ := hz2
            refine j_iconst (v := 1) dX8_one_140 (q := 141) rfl (by decide) ?_
            refine j_iretz dX8_one_141 rfl (by decide) ?_
            have n1 : ¬ (T.1 < L ∧ ixQ u (B T.1) < 3) := fun q => c_10 ((kI_nm hB hu).mpr q)
            have n2 : ¬ (T.1 < L ∧ 48 ≤ B T.1 ∧ B T.1 ≤ 57) := fun q => c_39 ((kI_dg hB).mpr q)
            have hb := (kI_eq hB (c := 33) (by decide)).mp c_105
            rw [show pOn B L u (e + 1) T = (true, pAdd 2 0 (pOn B L u e (pNx T)).2) from by show pLf B L u _ T = _; rw [pLf_else n2 n1, if_pos hb.1, if_pos hb.2, if_pos c_119]]
            exact ⟨rfl, hR2, fun _ => hO2.trans (up_at.trans hO.symm), ((((FM_6.tr FM_5).tr hF1).tr FM_6).tr hF2)⟩
          · skip
            refine j_iconst (v := 0) dX8_one_122 (q := 123) rfl (by decide) ?_
            refine j_iretz dX8_one_123 rfl (by decide) ?_
            have n1 : ¬ (T.1 < L ∧ ixQ u (B T.1) < 3) := fun q => c_10 ((kI_nm hB hu).mpr q)
            have n2 : ¬ (T.1 < L ∧ 48 ≤ B T.1 ∧ B T.1 ≤ 57) := fun q => c_39 ((kI_dg hB).mpr q)
            have hb := (kI_eq hB (c := 33) (by decide)).mp c_105
            rw [show pOn B L u (e + 1) T = (false, (pOn B L u e (pNx T)).2) from by show pLf B L u _ T = _; rw [pLf_else n2 n1, if_pos hb.1, if_pos hb.2, if_neg c_119]]
            exact ⟨rfl, hR1, fun q => absurd q Bool.false_ne_true, (FM_6.tr FM_5).tr hF1⟩
        · skip
          exact absurd trivial c_112
theorem on_all {g : GT} {B : Nat → Nat} {L u : Nat} (hL : L ≤ 60) (hB : ∀ j, j < L → B j < 256) (hu : u < 2) : ∀ e : Nat, ∀ (ρ : Nat), ρ + e = 5 → ∀ (T : PT) (σ : S_), T.1 ≤ L → T.2.1 ≤ T.1 → RK B L u σ T → σ 70 6 = nI ρ → CT g (6 * e + 2) M_X8_one [.ref 70] σ (PY B L u σ (pOn B L u e T)) := by
  intro e
  induction e with
  | zero =>
    intro ρ he T σ ha hn hR hO
    exact ct_on_0 hL hB (by omega) hu ha hn hR hO
  | succ e ih =>
    intro ρ he T σ ha hn hR hO
    exact ct_on_s hL hB ih (who_of hL hB hu ih) he hu ha hn hR hO
