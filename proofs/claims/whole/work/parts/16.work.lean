theorem up_row {σ : S_} {a k b : Nat} {v : Int32} (h : b ≠ a) : up σ a k v b = σ b := by funext j; simp [up, h]
theorem up_own {σ : S_} {a k : Nat} {v : Int32} : up σ a k v a = upd (σ a) k v := by funext j; simp [up, upd]
theorem dec_nI {n : Nat} (h : 1 ≤ n) : nI n + Int32.ofInt (-1) = nI (n - 1) := by
  obtain ⟨j, rfl⟩ : ∃ j, n = j + 1 := ⟨n - 1, by omega⟩
  exact pk_m1 j
theorem wo_loop {g : GT} {t : Nat} (ht : TX t) {a b c : Int32} {L : Nat} (h60 : L ≤ 60) : ∀ (k i n : Nat) (v6 : Value) (σ : S_) (Z : Value → S_ → Prop), σ t 3 = nI L → i + k = L → n ≤ i → wfT (σ (t + 1)) (σ (t + 2)) k i n → (∀ τ : S_, (∀ x, x ≠ t + 3 → τ x = σ x) → Z (.int (runT (σ (t + 1)) (σ (t + 2)) (nmF a b c) k i n (σ (t + 3)))) τ) → J g 1 M_X3_workedOut Z 6 [.ref t, .int a, .int b, .int c, .int (nI n), .int (nI i), v6] [] σ := by
  intro k
  induction k with
  | zero =>
    intro i n v6 σ Z hL hik hni hw hZ
    refine j_iload dX3_workedOut_6 (q := 8) rfl rfl ?_
    refine j_aload_n dX3_workedOut_8 (q := 9) rfl rfl ?_
    refine j_getIV fs_X3_21 ht.o rfl hL dX3_workedOut_9 (q := 12) rfl ?_
    refine j_icmp_geN (by omega) (by omega) dX3_workedOut_12 (t := 172) (by decide) (q := 15) rfl (fun c_12 => ?_) (fun c_12 => ?_)
    · skip
      refine j_iload dX3_workedOut_172 (q := 174) rfl rfl ?_
      refine j_if_leN (by omega) dX3_workedOut_174 (t := 186) (by decide) (q := 177) rfl (fun c_174 => ?_) (fun c_174 => ?_)
      · skip
        have hw : n = 1 := hw
        omega
      · skip
        refine j_aload_n dX3_workedOut_177 (q := 178) rfl rfl ?_
        refine j_getR (r := (t + 3)) fs_X3_18 ht.o rfl ht.r2 dX3_workedOut_178 (q := 181) rfl ?_
        refine j_iconst (v := 0) dX3_workedOut_181 (q := 182) rfl (by decide) ?_
        refine j_ialdN (k := 0) ht.a3 (by decide) dX3_workedOut_182 (q := 183) rfl ?_
        refine j_goto (q := 187) dX3_workedOut_183 (by decide) ?_
        refine j_ireti dX3_workedOut_187 rfl ?_
        exact hZ σ (fun _ _ => rfl)
    · skip
      omega
  | succ k ih =>
    intro i n v6 σ Z hL hik hni hw hZ
    refine j_iload dX3_workedOut_6 (q := 8) rfl rfl ?_
    refine j_aload_n dX3_workedOut_8 (q := 9) rfl rfl ?_
    refine j_getIV fs_X3_21 ht.o rfl hL dX3_workedOut_9 (q := 12) rfl ?_
    refine j_icmp_geN (by omega) (by omega) dX3_workedOut_12 (t := 172) (by decide) (q := 15) rfl (fun c_12 => ?_) (fun c_12 => ?_)
    · skip
      omega
    · skip
      refine j_aload_n dX3_workedOut_15 (q := 16) rfl rfl ?_
      refine j_getR (r := (t + 1)) fs_X3_9 ht.o rfl ht.r0 dX3_workedOut_16 (q := 19) rfl ?_
      refine j_iload dX3_workedOut_19 (q := 21) rfl rfl ?_
      refine j_ialdN ht.a1 (by omega) dX3_workedOut_21 (q := 22) rfl ?_
      refine j_istore_7_6 dX3_workedOut_22 (q := 24) rfl rfl rfl ?_
      refine j_iload dX3_workedOut_24 (q := 26) rfl rfl ?_
      refine j_iconst (v := 1) dX3_workedOut_26 (q := 27) rfl (by decide) ?_
      refine j_icmp_eq dX3_workedOut_27 (t := 36) (by decide) (q := 30) rfl (fun c_27 => ?_) (fun c_27 => ?_)
      · skip
        refine j_iload dX3_workedOut_36 (q := 38) rfl rfl ?_
        refine j_bipush (v := 60) dX3_workedOut_38 (q := 40) rfl (by decide) ?_
        refine j_icmp_geN (b := 60) (by omega) (by omega) dX3_workedOut_40 (t := 166) (by decide) (q := 43) rfl (fun c_40 => ?_) (fun c_40 => ?_)
        · skip
          omega
        · skip
          refine j_aload_n dX3_workedOut_43 (q := 44) rfl rfl ?_
          refine j_getR (r := (t + 3)) fs_X3_18 ht.o rfl ht.r2 dX3_workedOut_44 (q := 47) rfl ?_
          refine j_iload dX3_workedOut_47 (q := 49) rfl rfl ?_
          refine j_iload dX3_workedOut_49 (q := 51) rfl rfl ?_
          refine j_iconst (v := 1) dX3_workedOut_51 (q := 52) rfl (by decide) ?_
          refine j_icmp_ne dX3_workedOut_52 (t := 65) (by decide) (q := 55) rfl (fun c_52 => ?_) (fun c_52 => ?_)
          · skip
            exact absurd c_27 c_52
          · skip
            refine j_aload_n dX3_workedOut_55 (q := 56) rfl rfl ?_
            refine j_getR (r := (t + 2)) fs_X3_15 ht.o rfl ht.r1 dX3_workedOut_56 (q := 59) rfl ?_
            refine j_iload dX3_workedOut_59 (q := 61) rfl rfl ?_
            refine j_ialdN ht.a2 (by omega) dX3_workedOut_61 (q := 62) rfl ?_
            refine j_goto (q := 78) dX3_workedOut_62 (by decide) ?_
            refine j_iastN ht.a3 (by omega) dX3_workedOut_78 (q := 79) rfl ?_
            refine j_iincN_7_4 dX3_workedOut_79 (q := 82) rfl rfl rfl ?_
            refine j_goto (q := 166) dX3_workedOut_82 (by decide) ?_
            refine j_iincN_7_5 dX3_workedOut_166 (q := 169) rfl rfl rfl ?_
            refine j_goto (q := 6) dX3_workedOut_169 (by decide) ?_
            simp only [wfT, if_pos c_27] at hw
            refine ih (i + 1) (n + 1) _ _ Z (by rw [up_nc (by omega)]; exact hL) (by omega) (by omega) (by rw [up_row (by omega), up_row (by omega)]; exact hw) (fun τ hτ => ?_)
            have hz := hZ τ (fun x hx => by rw [hτ x hx]; exact up_row hx)
            simp only [runT, if_pos c_27] at hz
            rw [up_row (by omega), up_row (by omega), up_own]
            exact hz
      · skip
        refine j_iload dX3_workedOut_30 (q := 32) rfl rfl ?_
        refine j_iconst (v := 2) dX3_workedOut_32 (q := 33) rfl (by decide) ?_
        refine j_icmp_ne dX3_workedOut_33 (t := 85) (by decide) (q := 36) rfl (fun c_33 => ?_) (fun c_33 => ?_)
        · skip
          refine j_iload dX3_workedOut_85 (q := 87) rfl rfl ?_
          refine j_bipush (v := 33) dX3_workedOut_87 (q := 89) rfl (by decide) ?_
          refine j_icmp_ne dX3_workedOut_89 (t := 127) (by decide) (q := 92) rfl (fun c_89 => ?_) (fun c_89 => ?_)
          · skip
            refine j_iload dX3_workedOut_127 (q := 129) rfl rfl ?_
            refine j_iconst (v := 2) dX3_workedOut_129 (q := 130) rfl (by decide) ?_
            refine j_icmp_ltN (b := 2) (by omega) (by omega) dX3_workedOut_130 (t := 166) (by decide) (q := 133) rfl (fun c_130 => ?_) (fun c_130 => ?_)
            · skip
              simp only [wfT, if_neg c_27, if_neg c_33, if_neg c_89] at hw
              omega
            · skip
              have h2n : 2 ≤ n := by simp only [wfT, if_neg c_27, if_neg c_33, if_neg c_89] at hw; exact hw.2.1
              refine j_iinc_7_4 dX3_workedOut_133 (q := 136) rfl rfl rfl ?_
              rw [dec_nI (by omega)]
              refine j_aload_n dX3_workedOut_136 (q := 137) rfl rfl ?_
              refine j_getR (r := (t + 3)) fs_X3_18 ht.o rfl ht.r2 dX3_workedOut_137 (q := 140) rfl ?_
              refine j_iload dX3_workedOut_140 (q := 142) rfl rfl ?_
              refine j_iconst (v := 1) dX3_workedOut_142 (q := 143) rfl (by decide) ?_
              refine j_isubN (b := 1) (by omega) dX3_workedOut_143 (q := 144) rfl ?_
              refine j_iload dX3_workedOut_144 (q := 146) rfl rfl ?_
              refine j_aload_n dX3_workedOut_146 (q := 147) rfl rfl ?_
              refine j_getR (r := (t + 3)) fs_X3_18 ht.o rfl ht.r2 dX3_workedOut_147 (q := 150) rfl ?_
              refine j_iload dX3_workedOut_150 (q := 152) rfl rfl ?_
              refine j_iconst (v := 1) dX3_workedOut_152 (q := 153) rfl (by decide) ?_
              refine j_isubN (b := 1) (by omega) dX3_workedOut_153 (q := 154) rfl ?_
              refine j_ialdN ht.a3 (by omega) dX3_workedOut_154 (q := 155) rfl ?_
              refine j_aload_n dX3_workedOut_155 (q := 156) rfl rfl ?_
              refine j_getR (r := (t + 3)) fs_X3_18 ht.o rfl ht.r2 dX3_workedOut_156 (q := 159) rfl ?_
              refine j_iload dX3_workedOut_159 (q := 161) rfl rfl ?_
              refine j_ialdN ht.a3 (by omega) dX3_workedOut_161 (q := 162) rfl ?_
              refine j_callSi3E (M' := M_X3_joined) lk_X3_35 ms_X3_joined (by decide) (Nat.le_of_ble_eq_true rfl) dX3_workedOut_162 (q := 165) rfl (ct_X3_joined) ?_
              refine j_iastN ht.a3 (by omega) dX3_workedOut_165 (q := 166) rfl ?_
              refine j_iincN_7_5 dX3_workedOut_166 (q := 169) rfl rfl rfl ?_
              refine j_goto (q := 6) dX3_workedOut_169 (by decide) ?_
              simp only [wfT, if_neg c_27, if_neg c_33, if_neg c_89] at hw
              refine ih (i + 1) (n - 1) _ _ Z (by rw [up_nc (by omega)]; exact hL) (by omega) (by omega) (by rw [up_row (by omega), up_row (by omega)]; exact hw.2.2) (fun τ hτ => ?_)
              have hz := hZ τ (fun x hx => by rw [hτ x hx]; exact up_row hx)
              simp only [runT, if_neg c_27, if_neg c_33, if_neg c_89] at hz
              rw [up_row (by omega), up_row (by omega), up_own]
              exact hz
          · skip
            refine j_iload dX3_workedOut_92 (q := 94) rfl rfl ?_
            refine j_iconst (v := 1) dX3_workedOut_94 (q := 95) rfl (by decide) ?_
            refine j_icmp_ltN (b := 1) (by omega) (by omega) dX3_workedOut_95 (t := 166) (by decide) (q := 98) rfl (fun c_95 => ?_) (fun c_95 => ?_)
            · skip
              simp only [wfT, if_neg c_27, if_neg c_33, if_pos c_89] at hw
              omega
            · skip
              have h1n : 1 ≤ n := by simp only [wfT, if_neg c_27, if_neg c_33, if_pos c_89] at hw; exact hw.1
              refine j_aload_n dX3_workedOut_98 (q := 99) rfl rfl ?_
              refine j_getR (r := (t + 3)) fs_X3_18 ht.o rfl ht.r2 dX3_workedOut_99 (q := 102) rfl ?_
              refine j_iload dX3_workedOut_102 (q := 104) rfl rfl ?_
              refine j_iconst (v := 1) dX3_workedOut_104 (q := 105) rfl (by decide) ?_
              refine j_isubN (b := 1) (by omega) dX3_workedOut_105 (q := 106) rfl ?_
              refine j_aload_n dX3_workedOut_106 (q := 107) rfl rfl ?_
              refine j_getR (r := (t + 3)) fs_X3_18 ht.o rfl ht.r2 dX3_workedOut_107 (q := 110) rfl ?_
              refine j_iload dX3_workedOut_110 (q := 112) rfl rfl ?_
              refine j_iconst (v := 1) dX3_workedOut_112 (q := 113) rfl (by decide) ?_
              refine j_isubN (b := 1) (by omega) dX3_workedOut_113 (q := 114) rfl ?_
              refine j_ialdN ht.a3 (by omega) dX3_workedOut_114 (q := 115) rfl ?_
              refine j_if_ne dX3_workedOut_115 (t := 122) (by decide) (q := 118) rfl (fun c_115 => ?_) (fun c_115 => ?_)
              · skip
                refine j_iconst (v := 0) dX3_workedOut_122 (q := 123) rfl (by decide) ?_
                refine j_iastN ht.a3 (by omega) dX3_workedOut_123 (q := 124) rfl ?_
                refine j_goto (q := 166) dX3_workedOut_124 (by decide) ?_
                refine j_iincN_7_5 dX3_workedOut_166 (q := 169) rfl rfl rfl ?_
                refine j_goto (q := 6) dX3_workedOut_169 (by decide) ?_
                simp only [wfT, if_neg c_27, if_neg c_33, if_pos c_89] at hw
                refine ih (i + 1) n _ _ Z (by rw [up_nc (by omega)]; exact hL) (by omega) (by omega) (by rw [up_row (by omega), up_row (by omega)]; exact hw.2) (fun τ hτ => ?_)
                have hz := hZ τ (fun x hx => by rw [hτ x hx]; exact up_row hx)
                simp only [runT, if_neg c_27, if_neg c_33, if_pos c_89, bI_f c_115] at hz
                rw [up_row (by omega), up_row (by omega), up_own]
                exact hz
              · skip
                refine j_iconst (v := 1) dX3_workedOut_118 (q := 119) rfl (by decide) ?_
                refine j_goto (q := 123) dX3_workedOut_119 (by decide) ?_
                refine j_iastN ht.a3 (by omega) dX3_workedOut_123 (q := 124) rfl ?_
                refine j_goto (q := 166) dX3_workedOut_124 (by decide) ?_
                refine j_iincN_7_5 dX3_workedOut_166 (q := 169) rfl rfl rfl ?_
                refine j_goto (q := 6) dX3_workedOut_169 (by decide) ?_
                simp only [wfT, if_neg c_27, if_neg c_33, if_pos c_89] at hw
                refine ih (i + 1) n _ _ Z (by rw [up_nc (by omega)]; exact hL) (by omega) (by omega) (by rw [up_row (by omega), up_row (by omega)]; exact hw.2) (fun τ hτ => ?_)
                have hz := hZ τ (fun x hx => by rw [hτ x hx]; exact up_row hx)
                simp only [runT, if_neg c_27, if_neg c_33, if_pos c_89, bI_t c_115] at hz
                rw [up_row (by omega), up_row (by omega), up_own]
                exact hz
        · skip
          refine j_iload dX3_workedOut_36 (q := 38) rfl rfl ?_
          refine j_bipush (v := 60) dX3_workedOut_38 (q := 40) rfl (by decide) ?_
          refine j_icmp_geN (b := 60) (by omega) (by omega) dX3_workedOut_40 (t := 166) (by decide) (q := 43) rfl (fun c_40 => ?_) (fun c_40 => ?_)
          · skip
            omega
          · skip
            refine j_aload_n dX3_workedOut_43 (q := 44) rfl rfl ?_
            refine j_getR (r := (t + 3)) fs_X3_18 ht.o rfl ht.r2 dX3_workedOut_44 (q := 47) rfl ?_
            refine j_iload dX3_workedOut_47 (q := 49) rfl rfl ?_
            refine j_iload dX3_workedOut_49 (q := 51) rfl rfl ?_
            refine j_iconst (v := 1) dX3_workedOut_51 (q := 52) rfl (by decide) ?_
            refine j_icmp_ne dX3_workedOut_52 (t := 65) (by decide) (q := 55) rfl (fun c_52 => ?_) (fun c_52 => ?_)
            · skip
              refine j_aload_n dX3_workedOut_65 (q := 66) rfl rfl ?_
              refine j_getR (r := (t + 2)) fs_X3_15 ht.o rfl ht.r1 dX3_workedOut_66 (q := 69) rfl ?_
              refine j_iload dX3_workedOut_69 (q := 71) rfl rfl ?_
              refine j_ialdN ht.a2 (by omega) dX3_workedOut_71 (q := 72) rfl ?_
              refine j_iload_n dX3_workedOut_72 (q := 73) rfl rfl ?_
              refine j_iload_n dX3_workedOut_73 (q := 74) rfl rfl ?_
              refine j_iload_n dX3_workedOut_74 (q := 75) rfl rfl ?_
              refine j_callSi4E (M' := M_X3_named) lk_X3_31 ms_X3_named (by decide) (Nat.le_of_ble_eq_true rfl) dX3_workedOut_75 (q := 78) rfl (ct_X3_named) ?_
              refine j_iastN ht.a3 (by omega) dX3_workedOut_78 (q := 79) rfl ?_
              refine j_iincN_7_4 dX3_workedOut_79 (q := 82) rfl rfl rfl ?_
              refine j_goto (q := 166) dX3_workedOut_82 (by decide) ?_
              refine j_iincN_7_5 dX3_workedOut_166 (q := 169) rfl rfl rfl ?_
              refine j_goto (q := 6) dX3_workedOut_169 (by decide) ?_
              simp only [wfT, if_neg c_27, if_pos c_33] at hw
              refine ih (i + 1) (n + 1) _ _ Z (by rw [up_nc (by omega)]; exact hL) (by omega) (by omega) (by rw [up_row (by omega), up_row (by omega)]; exact hw.2) (fun τ hτ => ?_)
              have hz := hZ τ (fun x hx => by rw [hτ x hx]; exact up_row hx)
              simp only [runT, if_neg c_27, if_pos c_33] at hz
              rw [up_row (by omega), up_row (by omega), up_own]
              exact hz
            · skip
              exact absurd c_52 c_27
theorem ct_X3_workedOut {g : GT} {σ : S_} {t L : Nat} {a b c : Int32} (ht : TX t) (h60 : L ≤ 60) (hL : σ t 3 = nI L) (hw : wfT (σ (t + 1)) (σ (t + 2)) L 0 0) : CT g 1 M_X3_workedOut [.ref t, .int a, .int b, .int c] σ (fun r τ => r = .int (runT (σ (t + 1)) (σ (t + 2)) (nmF a b c) L 0 0 (σ (t + 3))) ∧ ∀ x, x ≠ t + 3 → τ x = σ x) := by
  refine ct_of [.ref t, .int a, .int b, .int c, .null, .null, .null] pn_X3_workedOut rfl (Nat.le_of_ble_eq_true rfl) ?_
  refine j_iconst (v := 0) dX3_workedOut_0 (q := 1) rfl (by decide) ?_
  refine j_istore_7_4 dX3_workedOut_1 (q := 3) rfl rfl rfl ?_
  refine j_iconst (v := 0) dX3_workedOut_3 (q := 4) rfl (by decide) ?_
  refine j_istore_7_5 dX3_workedOut_4 (q := 6) rfl rfl rfl ?_
  exact wo_loop ht h60 L 0 0 _ σ _ hL (by omega) (Nat.le_refl _) hw (fun τ hτ => ⟨rfl, hτ⟩)
