def sgM (w v : Int32) : Int32 := if w = 0 then 1 else if w = 1 then 2 else if w = 2 then 33 else v
def ixM (v : Int32) : Int32 := if v = 103 ∨ v = 112 then 0 else if v = 100 then 1 else 2
def vlM (w v : Int32) : Int32 := if w = 0 then v else if w = 1 then ixM v else 0
/-- sign and value of place i of TEXT u of the reference, in the class's way -/
def sgR (t : Nat → Int32) (u i : Nat) : Int32 := sgM (t (60 + 125 * u + 1 + 2 * i)) (t (60 + 125 * u + 2 + 2 * i))
def vlR (t : Nat → Int32) (u i : Nat) : Int32 := vlM (t (60 + 125 * u + 1 + 2 * i)) (t (60 + 125 * u + 2 + 2 * i))
def nmOK (u : Nat) (v : Int32) : Prop := v = 100 ∨ (u = 0 ∧ (v = 103 ∨ v = 104)) ∨ (u = 1 ∧ (v = 112 ∨ v = 115))
def okM (u : Nat) (w v : Int32) : Prop := w = 0 ∨ (w = 1 ∧ nmOK u v) ∨ w = 2 ∨ (w = 3 ∧ isOp v)
theorem nmOK_in {u : Nat} {v : Int32} (h : nmOK u v) : vp_in v 128 := by
  rcases h with rfl | ⟨-, rfl | rfl⟩ | ⟨-, rfl | rfl⟩ <;> (unfold vp_in; decide)
theorem isOp_ne {v : Int32} (h : isOp v) : ¬ v = 1 ∧ ¬ v = 2 ∧ ¬ v = 33 := by
  rcases h with rfl | rfl | rfl | rfl | rfl | rfl | rfl | rfl | rfl | rfl <;> decide
theorem wk_loop {g : GT} {u L : Nat} {a b c : Int32} (hu : u < 2) (h60 : L ≤ 60) : ∀ (k i n : Nat) (v5 v6 : Value) (σ : S_) (Z : Value → S_ → Prop), σ 71 (60 + 125 * u) = nI L → i + k = L → n ≤ i → wfT (sgR (σ 71) u) (vlR (σ 71) u) k i n → (∀ j, i ≤ j → j < L → okM u (σ 71 (60 + 125 * u + 1 + 2 * j)) (σ 71 (60 + 125 * u + 2 + 2 * j))) → (∀ v, nmOK u v → σ 76 v.toNatClampNeg = nmF a b c (ixM v)) → (∀ τ : S_, (∀ x, x ≠ 77 → τ x = σ x) → Z (.int (runT (sgR (σ 71) u) (vlR (σ 71) u) (nmF a b c) k i n (σ 77))) τ) → v5.category = 1 → J g 1 M_X8_worked Z 13 [.ref 70, .int (nI u), .int (nI (60 + 125 * u)), .int (nI n), .int (nI i), v5, v6] [] σ := by
  intro k
  induction k with
  | zero =>
    intro i n v5 v6 σ Z hL hik hni hw hok hN hZ h5
    refine j_iload dX8_worked_13 (q := 15) rfl rfl ?_
    refine j_aload_n dX8_worked_15 (q := 16) rfl rfl ?_
    refine j_getR (r := 71) fs_X8_7 rfl rfl rfl dX8_worked_16 (q := 19) rfl ?_
    refine j_iload_n dX8_worked_19 (q := 20) rfl rfl ?_
    refine j_ialdV rfl (by omega) hL dX8_worked_20 (q := 21) rfl ?_
    refine j_icmp_geN (by omega) (by omega) dX8_worked_21 (t := 163) (by decide) (q := 24) rfl (fun c_21 => ?_) (fun c_21 => ?_)
    · skip
      refine j_aload_n dX8_worked_163 (q := 164) rfl rfl ?_
      refine j_getR (r := 77) fs_X8_28 rfl rfl rfl dX8_worked_164 (q := 167) rfl ?_
      refine j_iconst (v := 0) dX8_worked_167 (q := 168) rfl (by decide) ?_
      refine j_ialdN (k := 0) rfl (by decide) dX8_worked_168 (q := 169) rfl ?_
      refine j_ireti dX8_worked_169 rfl ?_
      exact hZ σ (fun _ _ => rfl)
    · skip
      omega
  | succ k ih =>
    intro i n v5 v6 σ Z hL hik hni hw hok hN hZ h5
    refine j_iload dX8_worked_13 (q := 15) rfl rfl ?_
    refine j_aload_n dX8_worked_15 (q := 16) rfl rfl ?_
    refine j_getR (r := 71) fs_X8_7 rfl rfl rfl dX8_worked_16 (q := 19) rfl ?_
    refine j_iload_n dX8_worked_19 (q := 20) rfl rfl ?_
    refine j_ialdV rfl (by omega) hL dX8_worked_20 (q := 21) rfl ?_
    refine j_icmp_geN (by omega) (by omega) dX8_worked_21 (t := 163) (by decide) (q := 24) rfl (fun c_21 => ?_) (fun c_21 => ?_)
    · skip
      omega
    · skip
      refine j_aload_n dX8_worked_24 (q := 25) rfl rfl ?_
      refine j_getR (r := 71) fs_X8_7 rfl rfl rfl dX8_worked_25 (q := 28) rfl ?_
      refine j_iload_n dX8_worked_28 (q := 29) rfl rfl ?_
      refine j_iconst (v := 1) dX8_worked_29 (q := 30) rfl (by decide) ?_
      refine j_iaddN (b := 1) dX8_worked_30 (q := 31) rfl ?_
      refine j_iconst (v := 2) dX8_worked_31 (q := 32) rfl (by decide) ?_
      refine j_iload dX8_worked_32 (q := 34) rfl rfl ?_
      refine j_imulN (a := 2) dX8_worked_34 (q := 35) rfl ?_
      refine j_iaddN dX8_worked_35 (q := 36) rfl ?_
      refine j_ialdN rfl (by omega) dX8_worked_36 (q := 37) rfl ?_
      refine j_istore_7_5 dX8_worked_37 (q := 39) rfl rfl rfl ?_
      refine j_aload_n dX8_worked_39 (q := 40) rfl rfl ?_
      refine j_getR (r := 71) fs_X8_7 rfl rfl rfl dX8_worked_40 (q := 43) rfl ?_
      refine j_iload_n dX8_worked_43 (q := 44) rfl rfl ?_
      refine j_iconst (v := 2) dX8_worked_44 (q := 45) rfl (by decide) ?_
      refine j_iaddN (b := 2) dX8_worked_45 (q := 46) rfl ?_
      refine j_iconst (v := 2) dX8_worked_46 (q := 47) rfl (by decide) ?_
      refine j_iload dX8_worked_47 (q := 49) rfl rfl ?_
      refine j_imulN (a := 2) dX8_worked_49 (q := 50) rfl ?_
      refine j_iaddN dX8_worked_50 (q := 51) rfl ?_
      refine j_ialdN rfl (by omega) dX8_worked_51 (q := 52) rfl ?_
      refine j_istore_7_6 dX8_worked_52 (q := 54) rfl rfl rfl ?_
      refine j_iload dX8_worked_54 (q := 56) rfl rfl ?_
      refine j_if_eq dX8_worked_56 (t := 65) (by decide) (q := 59) rfl (fun c_56 => ?_) (fun c_56 => ?_)
      · skip
        refine j_aload_n dX8_worked_65 (q := 66) rfl rfl ?_
        refine j_getR (r := 77) fs_X8_28 rfl rfl rfl dX8_worked_66 (q := 69) rfl ?_
        refine j_iload_n dX8_worked_69 (q := 70) rfl rfl ?_
        refine j_iload dX8_worked_70 (q := 72) rfl rfl ?_
        refine j_if_ne dX8_worked_72 (t := 80) (by decide) (q := 75) rfl (fun c_72 => ?_) (fun c_72 => ?_)
        · skip
          exact absurd c_56 c_72
        · skip
          refine j_iload dX8_worked_75 (q := 77) rfl rfl ?_
          refine j_goto (q := 87) dX8_worked_77 (by decide) ?_
          refine j_iastN rfl (by omega) dX8_worked_87 (q := 88) rfl ?_
          refine j_iincN_7_3 dX8_worked_88 (q := 91) rfl rfl rfl ?_
          refine j_goto (q := 157) dX8_worked_91 (by decide) ?_
          refine j_iincN_7_4 dX8_worked_157 (q := 160) rfl rfl rfl ?_
          refine j_goto (q := 13) dX8_worked_160 (by decide) ?_
          have s1 : sgR (σ 71) u i = 1 := by simp [sgR, sgM, c_56]
          have v1 : vlR (σ 71) u i = σ 71 (60 + 125 * u + 2 + 2 * i) := by simp [vlR, vlM, c_56]
          simp only [wfT, if_pos s1] at hw
          refine ih (i + 1) (n + 1) _ _ _ Z (by rw [up_row (by decide)]; exact hL) (by omega) (by omega) (by rw [up_row (by decide)]; exact hw) (fun j h1 h2 => by rw [up_row (by decide)]; exact hok j (by omega) h2) (fun v hv => by rw [up_row (by decide)]; exact hN v hv) (fun τ hτ => ?_) rfl
          have hz := hZ τ (fun x hx => by rw [hτ x hx]; exact up_row hx)
          simp only [runT, if_pos s1, v1] at hz
          rw [up_row (by decide), up_own]
          exact hz
      · skip
        refine j_iload dX8_worked_59 (q := 61) rfl rfl ?_
        refine j_iconst (v := 1) dX8_worked_61 (q := 62) rfl (by decide) ?_
        refine j_icmp_ne dX8_worked_62 (t := 94) (by decide) (q := 65) rfl (fun c_62 => ?_) (fun c_62 => ?_)
        · skip
          refine j_iload dX8_worked_94 (q := 96) rfl rfl ?_
          refine j_iconst (v := 2) dX8_worked_96 (q := 97) rfl (by decide) ?_
          refine j_icmp_ne dX8_worked_97 (t := 127) (by decide) (q := 100) rfl (fun c_97 => ?_) (fun c_97 => ?_)
          · skip
            have hop : isOp (σ 71 (60 + 125 * u + 2 + 2 * i)) := by
              rcases hok i (Nat.le_refl _) (by omega) with h | ⟨h, -⟩ | h | ⟨-, h⟩
              · exact absurd h c_56
              · exact absurd h c_62
              · exact absurd h c_97
              · exact h
            have s0 : sgR (σ 71) u i = σ 71 (60 + 125 * u + 2 + 2 * i) := by simp [sgR, sgM, c_56, c_62, c_97]
            have s1 : ¬ sgR (σ 71) u i = 1 := by rw [s0]; exact (isOp_ne hop).1
            have s2 : ¬ sgR (σ 71) u i = 2 := by rw [s0]; exact (isOp_ne hop).2.1
            have s3 : ¬ sgR (σ 71) u i = 33 := by rw [s0]; exact (isOp_ne hop).2.2
            have h2n : 2 ≤ n := by simp only [wfT, if_neg s1, if_neg s2, if_neg s3] at hw; exact hw.2.1
            refine j_iinc_7_3 dX8_worked_127 (q := 130) rfl rfl rfl ?_
            rw [dec_nI (by omega)]
            refine j_aload_n dX8_worked_130 (q := 131) rfl rfl ?_
            refine j_getR (r := 77) fs_X8_28 rfl rfl rfl dX8_worked_131 (q := 134) rfl ?_
            refine j_iload_n dX8_worked_134 (q := 135) rfl rfl ?_
            refine j_iconst (v := 1) dX8_worked_135 (q := 136) rfl (by decide) ?_
            refine j_isubN (b := 1) (by omega) dX8_worked_136 (q := 137) rfl ?_
            refine j_iload dX8_worked_137 (q := 139) rfl rfl ?_
            refine j_aload_n dX8_worked_139 (q := 140) rfl rfl ?_
            refine j_getR (r := 77) fs_X8_28 rfl rfl rfl dX8_worked_140 (q := 143) rfl ?_
            refine j_iload_n dX8_worked_143 (q := 144) rfl rfl ?_
            refine j_iconst (v := 1) dX8_worked_144 (q := 145) rfl (by decide) ?_
            refine j_isubN (b := 1) (by omega) dX8_worked_145 (q := 146) rfl ?_
            refine j_ialdN rfl (by omega) dX8_worked_146 (q := 147) rfl ?_
            refine j_aload_n dX8_worked_147 (q := 148) rfl rfl ?_
            refine j_getR (r := 77) fs_X8_28 rfl rfl rfl dX8_worked_148 (q := 151) rfl ?_
            refine j_iload_n dX8_worked_151 (q := 152) rfl rfl ?_
            refine j_ialdN rfl (by omega) dX8_worked_152 (q := 153) rfl ?_
            refine j_callSi3E (M' := M_X8_joined) lk_X8_119 ms_X8_joined (by decide) (Nat.le_of_ble_eq_true rfl) dX8_worked_153 (q := 156) rfl (ct_X8_joined hop) ?_
            refine j_iastN rfl (by omega) dX8_worked_156 (q := 157) rfl ?_
            refine j_iincN_7_4 dX8_worked_157 (q := 160) rfl rfl rfl ?_
            refine j_goto (q := 13) dX8_worked_160 (by decide) ?_
            
            simp only [wfT, if_neg s1, if_neg s2, if_neg s3] at hw
            refine ih (i + 1) (n - 1) _ _ _ Z (by rw [up_row (by decide)]; exact hL) (by omega) (by omega) (by rw [up_row (by decide)]; exact hw.2.2) (fun j h1 h2 => by rw [up_row (by decide)]; exact hok j (by omega) h2) (fun v hv => by rw [up_row (by decide)]; exact hN v hv) (fun τ hτ => ?_) rfl
            have hz := hZ τ (fun x hx => by rw [hτ x hx]; exact up_row hx)
            simp only [runT, if_neg s1, if_neg s2, if_neg s3] at hz
            rw [s0] at hz
            rw [up_row (by decide), up_own]
            exact hz
          · skip
            have h1n : 1 ≤ n := by
              have s3 : sgR (σ 71) u i = 33 := by simp [sgR, sgM, c_97]
              simp only [wfT, s3] at hw
              exact (by simpa using hw : 1 ≤ n ∧ _).1
            refine j_aload_n dX8_worked_100 (q := 101) rfl rfl ?_
            refine j_getR (r := 77) fs_X8_28 rfl rfl rfl dX8_worked_101 (q := 104) rfl ?_
            refine j_iload_n dX8_worked_104 (q := 105) rfl rfl ?_
            refine j_iconst (v := 1) dX8_worked_105 (q := 106) rfl (by decide) ?_
            refine j_isubN (b := 1) (by omega) dX8_worked_106 (q := 107) rfl ?_
            refine j_aload_n dX8_worked_107 (q := 108) rfl rfl ?_
            refine j_getR (r := 77) fs_X8_28 rfl rfl rfl dX8_worked_108 (q := 111) rfl ?_
            refine j_iload_n dX8_worked_111 (q := 112) rfl rfl ?_
            refine j_iconst (v := 1) dX8_worked_112 (q := 113) rfl (by decide) ?_
            refine j_isubN (b := 1) (by omega) dX8_worked_113 (q := 114) rfl ?_
            refine j_ialdN rfl (by omega) dX8_worked_114 (q := 115) rfl ?_
            refine j_if_ne dX8_worked_115 (t := 122) (by decide) (q := 118) rfl (fun c_115 => ?_) (fun c_115 => ?_)
            · skip
              refine j_iconst (v := 0) dX8_worked_122 (q := 123) rfl (by decide) ?_
              refine j_iastN rfl (by omega) dX8_worked_123 (q := 124) rfl ?_
              refine j_goto (q := 157) dX8_worked_124 (by decide) ?_
              refine j_iincN_7_4 dX8_worked_157 (q := 160) rfl rfl rfl ?_
              refine j_goto (q := 13) dX8_worked_160 (by decide) ?_
              have s1 : ¬ sgR (σ 71) u i = 1 := by simp [sgR, sgM, c_97]
              have s2 : ¬ sgR (σ 71) u i = 2 := by simp [sgR, sgM, c_97]
              have s3 : sgR (σ 71) u i = 33 := by simp [sgR, sgM, c_97]
              simp only [wfT, if_neg s1, if_neg s2, if_pos s3] at hw
              refine ih (i + 1) n _ _ _ Z (by rw [up_row (by decide)]; exact hL) (by omega) (by omega) (by rw [up_row (by decide)]; exact hw.2) (fun j h1 h2 => by rw [up_row (by decide)]; exact hok j (by omega) h2) (fun v hv => by rw [up_row (by decide)]; exact hN v hv) (fun τ hτ => ?_) rfl
              have hz := hZ τ (fun x hx => by rw [hτ x hx]; exact up_row hx)
              simp only [runT, if_neg s1, if_neg s2, if_pos s3, bI_f c_115] at hz
              rw [up_row (by decide), up_own]
              exact hz
            · skip
              refine j_iconst (v := 1) dX8_worked_118 (q := 119) rfl (by decide) ?_
              refine j_goto (q := 123) dX8_worked_119 (by decide) ?_
              refine j_iastN rfl (by omega) dX8_worked_123 (q := 124) rfl ?_
              refine j_goto (q := 157) dX8_worked_124 (by decide) ?_
              refine j_iincN_7_4 dX8_worked_157 (q := 160) rfl rfl rfl ?_
              refine j_goto (q := 13) dX8_worked_160 (by decide) ?_
              have s1 : ¬ sgR (σ 71) u i = 1 := by simp [sgR, sgM, c_97]
              have s2 : ¬ sgR (σ 71) u i = 2 := by simp [sgR, sgM, c_97]
              have s3 : sgR (σ 71) u i = 33 := by simp [sgR, sgM, c_97]
              simp only [wfT, if_neg s1, if_neg s2, if_pos s3] at hw
              refine ih (i + 1) n _ _ _ Z (by rw [up_row (by decide)]; exact hL) (by omega) (by omega) (by rw [up_row (by decide)]; exact hw.2) (fun j h1 h2 => by rw [up_row (by decide)]; exact hok j (by omega) h2) (fun v hv => by rw [up_row (by decide)]; exact hN v hv) (fun τ hτ => ?_) rfl
              have hz := hZ τ (fun x hx => by rw [hτ x hx]; exact up_row hx)
              simp only [runT, if_neg s1, if_neg s2, if_pos s3, bI_t c_115] at hz
              rw [up_row (by decide), up_own]
              exact hz
        · skip
          refine j_aload_n dX8_worked_65 (q := 66) rfl rfl ?_
          refine j_getR (r := 77) fs_X8_28 rfl rfl rfl dX8_worked_66 (q := 69) rfl ?_
          refine j_iload_n dX8_worked_69 (q := 70) rfl rfl ?_
          refine j_iload dX8_worked_70 (q := 72) rfl rfl ?_
          refine j_if_ne dX8_worked_72 (t := 80) (by decide) (q := 75) rfl (fun c_72 => ?_) (fun c_72 => ?_)
          · skip
            have hnm : nmOK u (σ 71 (60 + 125 * u + 2 + 2 * i)) := by
              rcases hok i (Nat.le_refl _) (by omega) with h | ⟨-, h⟩ | h | ⟨h, -⟩
              · exact absurd h c_56
              · exact h
              · rw [c_62] at h; exact absurd h (by decide)
              · rw [c_62] at h; exact absurd h (by decide)
            refine j_aload_n dX8_worked_80 (q := 81) rfl rfl ?_
            refine j_getR (r := 76) fs_X8_25 rfl rfl rfl dX8_worked_81 (q := 84) rfl ?_
            refine j_iload dX8_worked_84 (q := 86) rfl rfl ?_
            refine j_iald rfl (nmOK_in hnm) dX8_worked_86 (q := 87) rfl ?_
            refine j_iastN rfl (by omega) dX8_worked_87 (q := 88) rfl ?_
            refine j_iincN_7_3 dX8_worked_88 (q := 91) rfl rfl rfl ?_
            refine j_goto (q := 157) dX8_worked_91 (by decide) ?_
            refine j_iincN_7_4 dX8_worked_157 (q := 160) rfl rfl rfl ?_
            refine j_goto (q := 13) dX8_worked_160 (by decide) ?_
            have s1 : ¬ sgR (σ 71) u i = 1 := by simp [sgR, sgM, c_62]
            have s2 : sgR (σ 71) u i = 2 := by simp [sgR, sgM, c_62]
            have v1 : vlR (σ 71) u i = ixM (σ 71 (60 + 125 * u + 2 + 2 * i)) := by simp [vlR, vlM, c_62]
            simp only [wfT, if_neg s1, if_pos s2] at hw
            refine ih (i + 1) (n + 1) _ _ _ Z (by rw [up_row (by decide)]; exact hL) (by omega) (by omega) (by rw [up_row (by decide)]; exact hw.2) (fun j h1 h2 => by rw [up_row (by decide)]; exact hok j (by omega) h2) (fun v hv => by rw [up_row (by decide)]; exact hN v hv) (fun τ hτ => ?_) rfl
            have hz := hZ τ (fun x hx => by rw [hτ x hx]; exact up_row hx)
            simp only [runT, if_neg s1, if_pos s2, v1, ← hN _ hnm] at hz
            rw [up_row (by decide), up_own]
            exact hz
          · skip
            exact absurd c_72 c_56
theorem ct_X8_worked {g : GT} {σ : S_} {u L : Nat} {a b c : Int32} (hu : u < 2) (h60 : L ≤ 60) (hL : σ 71 (60 + 125 * u) = nI L) (hw : wfT (sgR (σ 71) u) (vlR (σ 71) u) L 0 0) (hok : ∀ j, j < L → okM u (σ 71 (60 + 125 * u + 1 + 2 * j)) (σ 71 (60 + 125 * u + 2 + 2 * j))) (hN : ∀ v, nmOK u v → σ 76 v.toNatClampNeg = nmF a b c (ixM v)) : CT g 1 M_X8_worked [.ref 70, .int (nI u)] σ (fun r τ => r = .int (runT (sgR (σ 71) u) (vlR (σ 71) u) (nmF a b c) L 0 0 (σ 77)) ∧ ∀ x, x ≠ 77 → τ x = σ x) := by
  refine ct_of [.ref 70, .int (nI u), .null, .null, .null, .null, .null] pn_X8_worked rfl (Nat.le_of_ble_eq_true rfl) ?_
  refine j_bipush (v := 60) dX8_worked_0 (q := 2) rfl (by decide) ?_
  refine j_bipush (v := 125) dX8_worked_2 (q := 4) rfl (by decide) ?_
  refine j_iload_n dX8_worked_4 (q := 5) rfl rfl ?_
  refine j_imulN (a := 125) dX8_worked_5 (q := 6) rfl ?_
  refine j_iaddN (a := 60) dX8_worked_6 (q := 7) rfl ?_
  refine j_istore_n_7_2 dX8_worked_7 (q := 8) rfl rfl rfl ?_
  refine j_iconst (v := 0) dX8_worked_8 (q := 9) rfl (by decide) ?_
  refine j_istore_n_7_3 dX8_worked_9 (q := 10) rfl rfl rfl ?_
  refine j_iconst (v := 0) dX8_worked_10 (q := 11) rfl (by decide) ?_
  refine j_istore_7_4 dX8_worked_11 (q := 13) rfl rfl rfl ?_
  exact wk_loop hu h60 L 0 0 _ _ σ _ hL (by omega) (Nat.le_refl _) hw (fun j _ h2 => hok j h2) hN (fun τ hτ => ⟨rfl, hτ⟩) rfl
