theorem few_le {nf nc m : Nat} {D B : Nat → Nat} : (fewP nf nc m D B).1 ≤ 5 := by
  have : ∀ k f L p s, s.1 ≤ 5 → (goP nc m D B k f L p s).1 ≤ 5 := by
    intro k
    induction k with
    | zero => intro f L p s h; have := cn4_le L; unfold goP; split
              · exact h
              · show cn4 L ≤ 5; omega
    | succ k ih =>
      intro f L p s h
      unfold goP
      split
      · exact h
      · split
        · exact ih _ _ _ _ h
        · have hl : ∀ (n c : Nat) (s : SG), s.1 ≤ 5 → (lpG (fun c s => goP nc m D B k (f + 1) (updN L c (L c + D f)) (upd p f (nI c)) s) (fun c => decide (L c + D f ≤ B c)) n c s).1 ≤ 5 := by
            intro n
            induction n with
            | zero => intro c s h; exact h
            | succ n ihn => intro c s h; unfold lpG; refine ihn _ _ ?_; split
                            · exact ih _ _ _ _ h
                            · exact h
          exact hl nc 0 s h
  exact this _ _ _ _ _ (Nat.le_refl 5)
/-- the state of the search, as the reference holds it -/
def QS (nf f : Nat) (p : Nat → Int32) (s : SG) (σ : S_) : Prop := σ 70 16 = (if s.1 = 5 then -1 else nI s.1) ∧ s.1 ≤ 5 ∧ (s.1 ≠ 5 → ∀ j, j < nf → σ 80 j = s.2 j) ∧ ∀ j, j < f → σ 79 j = p j
def QO (f : Nat) (σ τ : S_) : Prop := (∀ j, j < f → τ 79 j = σ 79 j) ∧ τ 81 = σ 81 ∧ (∀ x, x ≠ 70 → x ≠ 79 → x ≠ 80 → x ≠ 81 → τ x = σ x) ∧ ∀ j, j ≠ 16 → τ 70 j = σ 70 j
theorem QS.dec1 {nf f : Nat} {p : Nat → Int32} {s : SG} {σ : S_} (h : QS nf f p s σ) (c : σ 70 16 = -1) : s.1 = 5 := by
  by_cases e : s.1 = 5
  · exact e
  · have h1 := h.1
    rw [if_neg e, c] at h1
    have h2 := h.2.1
    exact absurd h1 (by
      rcases (show s.1 = 0 ∨ s.1 = 1 ∨ s.1 = 2 ∨ s.1 = 3 ∨ s.1 = 4 by omega) with q | q | q | q | q <;> (rw [q]; decide))
theorem QS.dec2 {nf f : Nat} {p : Nat → Int32} {s : SG} {σ : S_} (h : QS nf f p s σ) (c : ¬ σ 70 16 = -1) : s.1 ≤ 4 ∧ σ 70 16 = nI s.1 := by
  have h2 := h.2.1
  by_cases e : s.1 = 5
  · have h1 := h.1; rw [if_pos e] at h1; exact absurd h1 c
  · have h1 := h.1; rw [if_neg e] at h1; exact ⟨by omega, h1⟩
theorem QO.rfl' {f : Nat} {σ : S_} : QO f σ σ := ⟨fun _ _ => rfl, rfl, fun _ _ _ _ _ => rfl, fun _ _ => rfl⟩
theorem QO.tr {f f' : Nat} {a b c : S_} (h : QO f a b) (h' : QO f' b c) (hf : f ≤ f') : QO f a c :=
  ⟨fun j hj => (h'.1 j (by omega)).trans (h.1 j hj), h'.2.1.trans h.2.1, fun x p q r s => (h'.2.2.1 x p q r s).trans (h.2.2.1 x p q r s), fun j hj => (h'.2.2.2 j hj).trans (h.2.2.2 j hj)⟩
theorem QO.way {f : Nat} {σ : S_} {v : Int32} : QO f σ (up σ 79 f v) :=
  ⟨fun j hj => up_nk (by omega), up_row (by decide), fun x _ h _ _ => up_row h, fun j _ => up_nc (by decide)⟩
theorem QO.own {f : Nat} {σ τ : S_} (h : QO f σ τ) : τ 71 = σ 71 := h.2.2.1 71 (by decide) (by decide) (by decide) (by decide)
theorem QS.way {nf f : Nat} {p : Nat → Int32} {s : SG} {σ : S_} {v : Int32} (h : QS nf f p s σ) : QS nf (f + 1) (upd p f v) s (up σ 79 f v) := by
  refine ⟨(up_nc (by decide)).trans h.1, h.2.1, fun e j hj => (up_nc (by decide)).trans (h.2.2.1 e j hj), fun j hj => ?_⟩
  by_cases e : j = f
  · subst e; rw [up_at, upd_at]
  · rw [up_nk e, upd_ne e]; exact h.2.2.2 j (by omega)
theorem QS.back {nf f : Nat} {p : Nat → Int32} {s s' : SG} {v : Int32} {σ τ : S_} (h : QS nf f p s σ) (hO : ∀ j, j < f → τ 79 j = σ 79 j) (h' : QS nf (f + 1) (upd p f v) s' τ) : QS nf f p s' τ :=
  ⟨h'.1, h'.2.1, h'.2.2.1, fun j hj => (hO j hj).trans (h.2.2.2 j hj)⟩
theorem QS.load {nf f : Nat} {p : Nat → Int32} {s : SG} {σ : S_} {c : Nat} {v : Int32} (h : QS nf f p s σ) : QS nf f p s (up σ 81 c v) :=
  ⟨(up_nc (by decide)).trans h.1, h.2.1, fun e j hj => (up_nc (by decide)).trans (h.2.2.1 e j hj), fun j hj => (up_nc (by decide)).trans (h.2.2.2 j hj)⟩
theorem QO.loop {f c : Nat} {σ τ : S_} {v v' w' : Int32} (h : QO (f + 1) (up (up σ 79 f w') 81 c v) τ) (hv : v' = σ 81 c) : QO f σ (up τ 81 c v') := by
  refine ⟨fun j hj => ?_, ?_, fun x p q r s => ?_, fun j hj => ?_⟩
  · rw [up_nc (by decide), h.1 j (by omega), up_nc (by decide), up_nk (by omega)]
  · rw [up_own, h.2.1, up_own, up_row (by decide), hv]
    funext x
    by_cases e : x = c
    · subst e; rw [upd_at]
    · rw [upd_ne e, upd_ne e]
  · rw [up_row s, h.2.2.1 x p q r s, up_row s, up_row q]
  · rw [up_nc (by decide), h.2.2.2 j hj, up_nc (by decide), up_nc (by decide)]
theorem gw_loop {g : GT} {nf nc m f : Nat} {D B L : Nat → Nat} {p : Nat → Int32} {k : Nat} {v6 : Value} {σ0 : S_} (h7 : nf ≤ 7) (h4 : nc ≤ 4) (hm : m ≤ 99) (hf : f < nf) (hD : m < D f) (hd99 : D f ≤ 99) (hL : ∀ x, x < nc → L x ≤ B x ∧ B x ≤ 300) {F : Nat → SG → SG} (hrec : ∀ c, c < nc → L c + D f ≤ B c → ∀ s σ, (σ 71 5 = nI nf ∧ σ 71 6 = nI nc ∧ NB (σ 71) nf nc D B) → (∀ x, x < nc → σ 81 x = nI (updN L c (L c + D f) x)) → QS nf (f + 1) (upd p f (nI c)) s σ → CT g (k + 2) M_X8_goes [.ref 70, .int (nI (f + 1)), .int (nI m), .int (nI (cn4 (updN L c (L c + D f))))] σ (fun r τ => r = .null ∧ QS nf (f + 1) (upd p f (nI c)) (F c s) τ ∧ QO (f + 1) σ τ)) : ∀ (n c : Nat) (s : SG) (v6 : Value) (σ : S_), c + n = nc → (σ 71 5 = nI nf ∧ σ 71 6 = nI nc ∧ NB (σ 71) nf nc D B) → (∀ x, x < nc → σ 81 x = nI (L x)) → QS nf f p s σ → QO f σ0 σ → J g (k + 1 + 2) M_X8_goes (fun r τ => r = .null ∧ QS nf f p (lpG F (fun c => decide (L c + D f ≤ B c)) n c s) τ ∧ QO f σ0 τ) 96 [.ref 70, .int (nI f), .int (nI m), .int (nI (cn4 L)), .int (nI (D f)), .int (nI c), v6] [] σ := by
  intro n
  induction n with
  | zero =>
    intro c s v6 σ hcn hS hR hP hO
    refine j_iload dX8_goes_96 (q := 98) rfl rfl ?_
    refine j_aload_n dX8_goes_98 (q := 99) rfl rfl ?_
    refine j_getR (r := 71) fs_X8_7 rfl rfl rfl dX8_goes_99 (q := 102) rfl ?_
    refine j_bipush (v := 6) dX8_goes_102 (q := 104) rfl (by decide) ?_
    refine j_ialdV (k := 6) rfl (by decide) hS.2.1 dX8_goes_104 (q := 105) rfl ?_
    refine j_icmp_geN (by omega) (by omega) dX8_goes_105 (t := 194) (by decide) (q := 108) rfl (fun c_105 => ?_) (fun c_105 => ?_)
    · skip
      refine j_vret dX8_goes_194 rfl ?_
      exact ⟨rfl, hP, hO⟩
    · skip
      omega
  | succ n ih =>
    intro c s v6 σ hcn hS hR hP hO
    refine j_iload dX8_goes_96 (q := 98) rfl rfl ?_
    refine j_aload_n dX8_goes_98 (q := 99) rfl rfl ?_
    refine j_getR (r := 71) fs_X8_7 rfl rfl rfl dX8_goes_99 (q := 102) rfl ?_
    refine j_bipush (v := 6) dX8_goes_102 (q := 104) rfl (by decide) ?_
    refine j_ialdV (k := 6) rfl (by decide) hS.2.1 dX8_goes_104 (q := 105) rfl ?_
    refine j_icmp_geN (by omega) (by omega) dX8_goes_105 (t := 194) (by decide) (q := 108) rfl (fun c_105 => ?_) (fun c_105 => ?_)
    · skip
      omega
    · skip
      have hb := hL c (by omega)
      have hcl := cn4_le L
      refine j_aload_n dX8_goes_108 (q := 109) rfl rfl ?_
      refine j_getR (r := 81) fs_X8_40 rfl rfl rfl dX8_goes_109 (q := 112) rfl ?_
      refine j_iload dX8_goes_112 (q := 114) rfl rfl ?_
      refine j_ialdV rfl (by omega) (hR c (by omega)) dX8_goes_114 (q := 115) rfl ?_
      refine j_iload dX8_goes_115 (q := 117) rfl rfl ?_
      refine j_iaddN dX8_goes_117 (q := 118) rfl ?_
      refine j_aload_n dX8_goes_118 (q := 119) rfl rfl ?_
      refine j_iload dX8_goes_119 (q := 121) rfl rfl ?_
      refine j_callVi1E (M' := M_X8_belly) lk_X8_157 mv_X8_belly ob_70 (by omega) (Nat.le_of_ble_eq_true rfl) dX8_goes_121 (q := 124) rfl (ct_X8_belly (by omega)) ?_
      rw [(hS.2.2.2 c (by omega)).1]
      refine j_icmp_gtN (by omega) (by omega) dX8_goes_124 (t := 188) (by decide) (q := 127) rfl (fun c_124 => ?_) (fun c_124 => ?_)
      · skip
        refine j_iincN_7_5 dX8_goes_188 (q := 191) rfl rfl rfl ?_
        refine j_goto (q := 96) dX8_goes_191 (by decide) ?_
        have hj := ih (c + 1) s v6 σ (by omega) hS hR hP hO
        rw [show lpG F (fun c => decide (L c + D f ≤ B c)) (n + 1) c s = lpG F (fun c => decide (L c + D f ≤ B c)) n (c + 1) s from by rw [lpG, if_neg (by simp; omega)]]
        exact hj
      · skip
        refine j_aload_n dX8_goes_127 (q := 128) rfl rfl ?_
        refine j_getR (r := 81) fs_X8_40 rfl rfl rfl dX8_goes_128 (q := 131) rfl ?_
        refine j_iload dX8_goes_131 (q := 133) rfl rfl ?_
        refine j_ialdV rfl (by omega) (hR c (by omega)) dX8_goes_133 (q := 134) rfl ?_
        refine j_if_neN (by omega) dX8_goes_134 (t := 141) (by decide) (q := 137) rfl (fun c_134 => ?_) (fun c_134 => ?_)
        · skip
          refine j_iconst (v := 0) dX8_goes_141 (q := 142) rfl (by decide) ?_
          refine j_istore_7_6 dX8_goes_142 (q := 144) rfl rfl rfl ?_
          refine j_aload_n dX8_goes_144 (q := 145) rfl rfl ?_
          refine j_getR (r := 79) fs_X8_34 rfl rfl rfl dX8_goes_145 (q := 148) rfl ?_
          refine j_iload_n dX8_goes_148 (q := 149) rfl rfl ?_
          refine j_iload dX8_goes_149 (q := 151) rfl rfl ?_
          refine j_iastN rfl (by omega) dX8_goes_151 (q := 152) rfl ?_
          refine j_aload_n dX8_goes_152 (q := 153) rfl rfl ?_
          refine j_getR (r := 81) fs_X8_40 rfl rfl rfl dX8_goes_153 (q := 156) rfl ?_
          refine j_iload dX8_goes_156 (q := 158) rfl rfl ?_
          refine j_dup2 dX8_goes_158 (q := 159) rfl rfl rfl ?_
          refine j_ialdV rfl (by omega) ((up_nc (by decide)).trans (hR c (by omega))) dX8_goes_159 (q := 160) rfl ?_
          refine j_iload dX8_goes_160 (q := 162) rfl rfl ?_
          refine j_iaddN dX8_goes_162 (q := 163) rfl ?_
          refine j_iastN rfl (by omega) dX8_goes_163 (q := 164) rfl ?_
          have hS1 : up (up σ 79 f (nI c)) 81 c (nI (L c + D f)) 71 5 = nI nf ∧ up (up σ 79 f (nI c)) 81 c (nI (L c + D f)) 71 6 = nI nc ∧ NB (up (up σ 79 f (nI c)) 81 c (nI (L c + D f)) 71) nf nc D B := by
            rw [show up (up σ 79 f (nI c)) 81 c (nI (L c + D f)) 71 = σ 71 from (up_row (by decide)).trans (up_row (by decide))]
            exact hS
          have hR1 : ∀ x, x < nc → up (up σ 79 f (nI c)) 81 c (nI (L c + D f)) 81 x = nI (updN L c (L c + D f) x) := by
            intro x hx
            by_cases e : x = c
            · subst e; rw [up_at, updN_at]
            · rw [up_nk e, up_nc (by decide), updN_ne e]; exact hR x hx
          refine j_aload_n dX8_goes_164 (q := 165) rfl rfl ?_
          refine j_iload_n dX8_goes_165 (q := 166) rfl rfl ?_
          refine j_iconst (v := 1) dX8_goes_166 (q := 167) rfl (by decide) ?_
          refine j_iaddN (b := 1) dX8_goes_167 (q := 168) rfl ?_
          refine j_iload_n dX8_goes_168 (q := 169) rfl rfl ?_
          refine j_iload_n dX8_goes_169 (q := 170) rfl rfl ?_
          refine j_iload dX8_goes_170 (q := 172) rfl rfl ?_
          refine j_iaddN (b := 0) dX8_goes_172 (q := 173) rfl ?_
          rw [show cn4 L + _ = cn4 (updN L c (L c + D f)) from by rw [cn4_add (by omega) (by omega)]; split <;> omega]
          refine j_callVv3 (M' := M_X8_goes) lk_X8_208 mv_X8_goes ob_70 (by omega) (Nat.le_of_ble_eq_true rfl) dX8_goes_173 (q := 176) rfl (hrec c (by omega) (by omega) s _ hS1 hR1 (QS.load (QS.way hP))) ?_
          intro τ1 hz
          obtain ⟨_, hS2, hO1⟩ := hz
          have hv5 : τ1 81 c = nI (L c + D f) := by rw [hO1.2.1]; exact up_at
          have hO2 := QO.loop hO1 (v' := nI (L c + D f - D f)) (by rw [hR c (by omega)]; congr 1; omega)
          refine j_aload_n dX8_goes_176 (q := 177) rfl rfl ?_
          refine j_getR (r := 81) fs_X8_40 rfl rfl rfl dX8_goes_177 (q := 180) rfl ?_
          refine j_iload dX8_goes_180 (q := 182) rfl rfl ?_
          refine j_dup2 dX8_goes_182 (q := 183) rfl rfl rfl ?_
          refine j_ialdV rfl (by omega) hv5 dX8_goes_183 (q := 184) rfl ?_
          refine j_iload dX8_goes_184 (q := 186) rfl rfl ?_
          refine j_isubN (by omega) dX8_goes_186 (q := 187) rfl ?_
          refine j_iastN rfl (by omega) dX8_goes_187 (q := 188) rfl ?_
          refine j_iincN_7_5 dX8_goes_188 (q := 191) rfl rfl rfl ?_
          refine j_goto (q := 96) dX8_goes_191 (by decide) ?_
          rw [show lpG F (fun c => decide (L c + D f ≤ B c)) (n + 1) c s = lpG F (fun c => decide (L c + D f ≤ B c)) n (c + 1) (F c s) from by rw [lpG, if_pos (by simp; omega)]]
          exact ih (c + 1) (F c s) _ _ (by omega) (by rw [hO2.own]; exact hS) (fun x hx => by rw [hO2.2.1]; exact hR x hx) (QS.load (QS.back hP (fun j hj => (up_nc (by decide)).symm.trans (hO2.1 j hj)) hS2)) (QO.tr hO hO2 (Nat.le_refl _))
        · skip
          refine j_iconst (v := 1) dX8_goes_137 (q := 138) rfl (by decide) ?_
          refine j_goto (q := 142) dX8_goes_138 (by decide) ?_
          refine j_istore_7_6 dX8_goes_142 (q := 144) rfl rfl rfl ?_
          refine j_aload_n dX8_goes_144 (q := 145) rfl rfl ?_
          refine j_getR (r := 79) fs_X8_34 rfl rfl rfl dX8_goes_145 (q := 148) rfl ?_
          refine j_iload_n dX8_goes_148 (q := 149) rfl rfl ?_
          refine j_iload dX8_goes_149 (q := 151) rfl rfl ?_
          refine j_iastN rfl (by omega) dX8_goes_151 (q := 152) rfl ?_
          refine j_aload_n dX8_goes_152 (q := 153) rfl rfl ?_
          refine j_getR (r := 81) fs_X8_40 rfl rfl rfl dX8_goes_153 (q := 156) rfl ?_
          refine j_iload dX8_goes_156 (q := 158) rfl rfl ?_
          refine j_dup2 dX8_goes_158 (q := 159) rfl rfl rfl ?_
          refine j_ialdV rfl (by omega) ((up_nc (by decide)).trans (hR c (by omega))) dX8_goes_159 (q := 160) rfl ?_
          refine j_iload dX8_goes_160 (q := 162) rfl rfl ?_
          refine j_iaddN dX8_goes_162 (q := 163) rfl ?_
          refine j_iastN rfl (by omega) dX8_goes_163 (q := 164) rfl ?_
          have hS1 : up (up σ 79 f (nI c)) 81 c (nI (L c + D f)) 71 5 = nI nf ∧ up (up σ 79 f (nI c)) 81 c (nI (L c + D f)) 71 6 = nI nc ∧ NB (up (up σ 79 f (nI c)) 81 c (nI (L c + D f)) 71) nf nc D B := by
            rw [show up (up σ 79 f (nI c)) 81 c (nI (L c + D f)) 71 = σ 71 from (up_row (by decide)).trans (up_row (by decide))]
            exact hS
          have hR1 : ∀ x, x < nc → up (up σ 79 f (nI c)) 81 c (nI (L c + D f)) 81 x = nI (updN L c (L c + D f) x) := by
            intro x hx
            by_cases e : x = c
            · subst e; rw [up_at, updN_at]
            · rw [up_nk e, up_nc (by decide), updN_ne e]; exact hR x hx
          refine j_aload_n dX8_goes_164 (q := 165) rfl rfl ?_
          refine j_iload_n dX8_goes_165 (q := 166) rfl rfl ?_
          refine j_iconst (v := 1) dX8_goes_166 (q := 167) rfl (by decide) ?_
          refine j_iaddN (b := 1) dX8_goes_167 (q := 168) rfl ?_
          refine j_iload_n dX8_goes_168 (q := 169) rfl rfl ?_
          refine j_iload_n dX8_goes_169 (q := 170) rfl rfl ?_
          refine j_iload dX8_goes_170 (q := 172) rfl rfl ?_
          refine j_iaddN (b := 1) dX8_goes_172 (q := 173) rfl ?_
          rw [show cn4 L + _ = cn4 (updN L c (L c + D f)) from by rw [cn4_add (by omega) (by omega)]; split <;> omega]
          refine j_callVv3 (M' := M_X8_goes) lk_X8_208 mv_X8_goes ob_70 (by omega) (Nat.le_of_ble_eq_true rfl) dX8_goes_173 (q := 176) rfl (hrec c (by omega) (by omega) s _ hS1 hR1 (QS.load (QS.way hP))) ?_
          intro τ1 hz
          obtain ⟨_, hS2, hO1⟩ := hz
          have hv5 : τ1 81 c = nI (L c + D f) := by rw [hO1.2.1]; exact up_at
          have hO2 := QO.loop hO1 (v' := nI (L c + D f - D f)) (by rw [hR c (by omega)]; congr 1; omega)
          refine j_aload_n dX8_goes_176 (q := 177) rfl rfl ?_
          refine j_getR (r := 81) fs_X8_40 rfl rfl rfl dX8_goes_177 (q := 180) rfl ?_
          refine j_iload dX8_goes_180 (q := 182) rfl rfl ?_
          refine j_dup2 dX8_goes_182 (q := 183) rfl rfl rfl ?_
          refine j_ialdV rfl (by omega) hv5 dX8_goes_183 (q := 184) rfl ?_
          refine j_iload dX8_goes_184 (q := 186) rfl rfl ?_
          refine j_isubN (by omega) dX8_goes_186 (q := 187) rfl ?_
          refine j_iastN rfl (by omega) dX8_goes_187 (q := 188) rfl ?_
          refine j_iincN_7_5 dX8_goes_188 (q := 191) rfl rfl rfl ?_
          refine j_goto (q := 96) dX8_goes_191 (by decide) ?_
          rw [show lpG F (fun c => decide (L c + D f ≤ B c)) (n + 1) c s = lpG F (fun c => decide (L c + D f ≤ B c)) n (c + 1) (F c s) from by rw [lpG, if_pos (by simp; omega)]]
          exact ih (c + 1) (F c s) _ _ (by omega) (by rw [hO2.own]; exact hS) (fun x hx => by rw [hO2.2.1]; exact hR x hx) (QS.load (QS.back hP (fun j hj => (up_nc (by decide)).symm.trans (hO2.1 j hj)) hS2)) (QO.tr hO hO2 (Nat.le_refl _))
theorem gl_loop {g : GT} {f d : Nat} {x2 x3 : Int32} {v5 v6 : Value} {Z : Value → S_ → Prop} {σ0 : S_} (h7 : f ≤ 7) (hZ : ∀ τ : S_, (∀ j, j < f → τ 80 j = σ0 79 j) → (∀ x, x ≠ 80 → τ x = σ0 x) → Z .null τ) : ∀ (k j : Nat) (σ : S_), j + k = f → (∀ x, x < j → σ 80 x = σ0 79 x) → (∀ x, x ≠ 80 → σ x = σ0 x) → J g d M_X8_goes Z 35 [.ref 70, .int (nI f), .int x2, .int x3, .int (nI j), v5, v6] [] σ := by
  intro k
  induction k with
  | zero =>
    intro j σ hik hw hO
    refine j_iload dX8_goes_35 (q := 37) rfl rfl ?_
    refine j_iload_n dX8_goes_37 (q := 38) rfl rfl ?_
    refine j_icmp_geN (by omega) (by omega) dX8_goes_38 (t := 61) (by decide) (q := 41) rfl (fun c_38 => ?_) (fun c_38 => ?_)
    · skip
      refine j_vret dX8_goes_61 rfl ?_
      obtain rfl : j = f := by omega
      exact hZ σ hw hO
    · skip
      omega
  | succ k ih =>
    intro j σ hik hw hO
    refine j_iload dX8_goes_35 (q := 37) rfl rfl ?_
    refine j_iload_n dX8_goes_37 (q := 38) rfl rfl ?_
    refine j_icmp_geN (by omega) (by omega) dX8_goes_38 (t := 61) (by decide) (q := 41) rfl (fun c_38 => ?_) (fun c_38 => ?_)
    · skip
      omega
    · skip
      refine j_aload_n dX8_goes_41 (q := 42) rfl rfl ?_
      refine j_getR (r := 80) fs_X8_37 rfl rfl rfl dX8_goes_42 (q := 45) rfl ?_
      refine j_iload dX8_goes_45 (q := 47) rfl rfl ?_
      refine j_aload_n dX8_goes_47 (q := 48) rfl rfl ?_
      refine j_getR (r := 79) fs_X8_34 rfl rfl rfl dX8_goes_48 (q := 51) rfl ?_
      refine j_iload dX8_goes_51 (q := 53) rfl rfl ?_
      refine j_ialdV rfl (by omega) (congrFun (hO 79 (by decide)) j) dX8_goes_53 (q := 54) rfl ?_
      refine j_iastN rfl (by omega) dX8_goes_54 (q := 55) rfl ?_
      refine j_iincN_7_4 dX8_goes_55 (q := 58) rfl rfl rfl ?_
      refine j_goto (q := 35) dX8_goes_58 (by decide) ?_
      refine ih (j + 1) _ (by omega) (fun x hx => ?_) (fun x hx => (up_row hx).trans (hO x hx))
      by_cases e : x = j
      · subst e; exact up_at
      · exact (up_nk e).trans (hw x (by omega))
theorem go_all {g : GT} {nf nc m : Nat} {D B : Nat → Nat} (h7 : nf ≤ 7) (h4 : nc ≤ 4) (hm : m ≤ 99) : ∀ (k f : Nat) (L : Nat → Nat) (p : Nat → Int32) (s : SG) (σ : S_), f + k = nf → (σ 71 5 = nI nf ∧ σ 71 6 = nI nc ∧ NB (σ 71) nf nc D B) → (∀ x, x < nc → σ 81 x = nI (L x)) → (∀ x, x < nc → L x ≤ B x) → QS nf f p s σ → CT g (k + 2) M_X8_goes [.ref 70, .int (nI f), .int (nI m), .int (nI (cn4 L))] σ (fun r τ => r = .null ∧ QS nf f p (goP nc m D B k f L p s) τ ∧ QO f σ τ) := by
  intro k
  induction k with
  | zero =>
    intro f L p s σ hfk hS hR hLB hP
    have hcn4 := cn4_le L
    have hs5 := hP.2.1
    refine ct_of [.ref 70, .int (nI f), .int (nI m), .int (nI (cn4 L)), .null, .null, .null] pn_X8_goes rfl (Nat.le_of_ble_eq_true rfl) ?_
    refine j_aload_n dX8_goes_0 (q := 1) rfl rfl ?_
    refine j_getI fs_X8_205 rfl rfl dX8_goes_1 (q := 4) rfl ?_
    refine j_iconst (v := (-1)) dX8_goes_4 (q := 5) rfl (by decide) ?_
    refine j_icmp_eq dX8_goes_5 (t := 17) (by decide) (q := 8) rfl (fun c_5 => ?_) (fun c_5 => ?_)
    · skip
      have hlt : cn4 L < s.1 := by first | exact c_13 | (have := QS.dec1 hP c_5; omega)
      refine j_iload_n dX8_goes_17 (q := 18) rfl rfl ?_
      refine j_aload_n dX8_goes_18 (q := 19) rfl rfl ?_
      refine j_getR (r := 71) fs_X8_7 rfl rfl rfl dX8_goes_19 (q := 22) rfl ?_
      refine j_iconst (v := 5) dX8_goes_22 (q := 23) rfl (by decide) ?_
      refine j_ialdV (k := 5) rfl (by decide) hS.1 dX8_goes_23 (q := 24) rfl ?_
      refine j_icmp_neN (by omega) (by omega) dX8_goes_24 (t := 62) (by decide) (q := 27) rfl (fun c_24 => ?_) (fun c_24 => ?_)
      · skip
        omega
      · skip
        refine j_aload_n dX8_goes_27 (q := 28) rfl rfl ?_
        refine j_iload_n dX8_goes_28 (q := 29) rfl rfl ?_
        refine j_putI fs_X8_205 rfl rfl fp_8_16 dX8_goes_29 (q := 32) rfl ?_
        refine j_iconst (v := 0) dX8_goes_32 (q := 33) rfl (by decide) ?_
        refine j_istore_7_4 dX8_goes_33 (q := 35) rfl rfl rfl ?_
        refine gl_loop (σ0 := up σ 70 16 (nI (cn4 L))) (by omega) (fun τ hw hO => ?_) f 0 _ (by omega) (fun x hx => absurd hx (by omega)) (fun _ _ => rfl)
        rw [goP, if_neg (by omega)]
        refine ⟨rfl, ⟨?_, by show cn4 L ≤ 5; omega, fun _ j hj => ?_, fun j hj => ?_⟩, fun j hj => ?_, ?_, fun x a b c d => ?_, fun j hj => ?_⟩
        · rw [hO 70 (by decide), up_at, if_neg (by show ¬ cn4 L = 5; omega)]
        · rw [hw j (by omega), up_nc (by decide)]; exact hP.2.2.2 j (by omega)
        · rw [hO 79 (by decide), up_nc (by decide)]; exact hP.2.2.2 j hj
        · rw [hO 79 (by decide), up_nc (by decide)]
        · rw [hO 81 (by decide), up_row (by decide)]
        · rw [hO x c, up_row a]
        · rw [hO 70 (by decide), up_nk hj]
    · skip
      have hs4 := QS.dec2 hP c_5
      refine j_iload_n dX8_goes_8 (q := 9) rfl rfl ?_
      refine j_aload_n dX8_goes_9 (q := 10) rfl rfl ?_
      refine j_getIV fs_X8_205 rfl rfl hs4.2 dX8_goes_10 (q := 13) rfl ?_
      refine j_icmp_ltN (by omega) (by omega) dX8_goes_13 (t := 17) (by decide) (q := 16) rfl (fun c_13 => ?_) (fun c_13 => ?_)
      · skip
        have hlt : cn4 L < s.1 := by first | exact c_13 | (have := QS.dec1 hP c_5; omega)
        refine j_iload_n dX8_goes_17 (q := 18) rfl rfl ?_
        refine j_aload_n dX8_goes_18 (q := 19) rfl rfl ?_
        refine j_getR (r := 71) fs_X8_7 rfl rfl rfl dX8_goes_19 (q := 22) rfl ?_
        refine j_iconst (v := 5) dX8_goes_22 (q := 23) rfl (by decide) ?_
        refine j_ialdV (k := 5) rfl (by decide) hS.1 dX8_goes_23 (q := 24) rfl ?_
        refine j_icmp_neN (by omega) (by omega) dX8_goes_24 (t := 62) (by decide) (q := 27) rfl (fun c_24 => ?_) (fun c_24 => ?_)
        · skip
          omega
        · skip
          refine j_aload_n dX8_goes_27 (q := 28) rfl rfl ?_
          refine j_iload_n dX8_goes_28 (q := 29) rfl rfl ?_
          refine j_putI fs_X8_205 rfl rfl fp_8_16 dX8_goes_29 (q := 32) rfl ?_
          refine j_iconst (v := 0) dX8_goes_32 (q := 33) rfl (by decide) ?_
          refine j_istore_7_4 dX8_goes_33 (q := 35) rfl rfl rfl ?_
          refine gl_loop (σ0 := up σ 70 16 (nI (cn4 L))) (by omega) (fun τ hw hO => ?_) f 0 _ (by omega) (fun x hx => absurd hx (by omega)) (fun _ _ => rfl)
          rw [goP, if_neg (by omega)]
          refine ⟨rfl, ⟨?_, by show cn4 L ≤ 5; omega, fun _ j hj => ?_, fun j hj => ?_⟩, fun j hj => ?_, ?_, fun x a b c d => ?_, fun j hj => ?_⟩
          · rw [hO 70 (by decide), up_at, if_neg (by show ¬ cn4 L = 5; omega)]
          · rw [hw j (by omega), up_nc (by decide)]; exact hP.2.2.2 j (by omega)
          · rw [hO 79 (by decide), up_nc (by decide)]; exact hP.2.2.2 j hj
          · rw [hO 79 (by decide), up_nc (by decide)]
          · rw [hO 81 (by decide), up_row (by decide)]
          · rw [hO x c, up_row a]
          · rw [hO 70 (by decide), up_nk hj]
      · skip
        refine j_vret dX8_goes_16 rfl ?_
        exact ⟨rfl, by rw [goP, if_pos (by omega)]; exact hP, QO.rfl'⟩
  | succ k ih =>
    intro f L p s σ hfk hS hR hLB hP
    have hcn4 := cn4_le L
    have hs5 := hP.2.1
    refine ct_of [.ref 70, .int (nI f), .int (nI m), .int (nI (cn4 L)), .null, .null, .null] pn_X8_goes rfl (Nat.le_of_ble_eq_true rfl) ?_
    refine j_aload_n dX8_goes_0 (q := 1) rfl rfl ?_
    refine j_getI fs_X8_205 rfl rfl dX8_goes_1 (q := 4) rfl ?_
    refine j_iconst (v := (-1)) dX8_goes_4 (q := 5) rfl (by decide) ?_
    refine j_icmp_eq dX8_goes_5 (t := 17) (by decide) (q := 8) rfl (fun c_5 => ?_) (fun c_5 => ?_)
    · skip
      have hlt : cn4 L < s.1 := by first | exact c_13 | (have := QS.dec1 hP c_5; omega)
      refine j_iload_n dX8_goes_17 (q := 18) rfl rfl ?_
      refine j_aload_n dX8_goes_18 (q := 19) rfl rfl ?_
      refine j_getR (r := 71) fs_X8_7 rfl rfl rfl dX8_goes_19 (q := 22) rfl ?_
      refine j_iconst (v := 5) dX8_goes_22 (q := 23) rfl (by decide) ?_
      refine j_ialdV (k := 5) rfl (by decide) hS.1 dX8_goes_23 (q := 24) rfl ?_
      refine j_icmp_neN (by omega) (by omega) dX8_goes_24 (t := 62) (by decide) (q := 27) rfl (fun c_24 => ?_) (fun c_24 => ?_)
      · skip
        refine j_aload_n dX8_goes_62 (q := 63) rfl rfl ?_
        refine j_iload_n dX8_goes_63 (q := 64) rfl rfl ?_
        refine j_iconst (v := 4) dX8_goes_64 (q := 65) rfl (by decide) ?_
        refine j_callVi2E (M' := M_X8_its) lk_X8_123 mv_X8_its ob_70 (by omega) (Nat.le_of_ble_eq_true rfl) dX8_goes_65 (q := 68) rfl (ct_X8_its (k := 4) (by omega) (by decide)) ?_
        rw [(hS.2.2.1 f (by omega)).1]
        refine j_istore_7_4 dX8_goes_68 (q := 70) rfl rfl rfl ?_
        have hd99 := (hS.2.2.1 f (by omega)).2
        refine j_iload dX8_goes_70 (q := 72) rfl rfl ?_
        refine j_iload_n dX8_goes_72 (q := 73) rfl rfl ?_
        refine j_icmp_gtN (by omega) (by omega) dX8_goes_73 (t := 93) (by decide) (q := 76) rfl (fun c_73 => ?_) (fun c_73 => ?_)
        · skip
          refine j_iconst (v := 0) dX8_goes_93 (q := 94) rfl (by decide) ?_
          refine j_istore_7_5 dX8_goes_94 (q := 96) rfl rfl rfl ?_
          rw [goP, if_neg (by omega), if_neg (by omega)]
          exact gw_loop (p := p) (v6 := .null) h7 h4 hm (by omega) (by omega) (hS.2.2.1 f (by omega)).2 (fun x hx => ⟨hLB x hx, (hS.2.2.2 x hx).2⟩) (F := fun c s => goP nc m D B k (f + 1) (updN L c (L c + D f)) (upd p f (nI c)) s) (fun c hc hl s σ hS hR hP => ih (f + 1) _ _ s σ (by omega) hS hR (fun x hx => updN_le hLB hl hx) hP) nc 0 s .null σ (by omega) hS hR hP QO.rfl'
        · skip
          refine j_aload_n dX8_goes_76 (q := 77) rfl rfl ?_
          refine j_getR (r := 79) fs_X8_34 rfl rfl rfl dX8_goes_77 (q := 80) rfl ?_
          refine j_iload_n dX8_goes_80 (q := 81) rfl rfl ?_
          refine j_iconst (v := (-1)) dX8_goes_81 (q := 82) rfl (by decide) ?_
          refine j_iastN rfl (by omega) dX8_goes_82 (q := 83) rfl ?_
          refine j_aload_n dX8_goes_83 (q := 84) rfl rfl ?_
          refine j_iload_n dX8_goes_84 (q := 85) rfl rfl ?_
          refine j_iconst (v := 1) dX8_goes_85 (q := 86) rfl (by decide) ?_
          refine j_iaddN (b := 1) dX8_goes_86 (q := 87) rfl ?_
          refine j_iload_n dX8_goes_87 (q := 88) rfl rfl ?_
          refine j_iload_n dX8_goes_88 (q := 89) rfl rfl ?_
          refine j_callVv3 (M' := M_X8_goes) lk_X8_208 mv_X8_goes ob_70 (by omega) (Nat.le_of_ble_eq_true rfl) dX8_goes_89 (q := 92) rfl (ih (f + 1) L (upd p f (-1)) s _ (by omega) (by rw [show up σ 79 f (-1) 71 = σ 71 from up_row (by decide)]; exact hS) (fun x hx => (up_nc (by decide)).trans (hR x hx)) hLB (QS.way hP)) ?_
          intro τ1 hz
          obtain ⟨_, hS1, hO1⟩ := hz
          have hO2 : QO f σ τ1 := QO.tr QO.way hO1 (Nat.le_succ f)
          refine j_vret dX8_goes_92 rfl ?_
          refine ⟨rfl, ?_, hO2⟩
          rw [goP, if_neg (by omega), if_pos (by omega)]
          exact QS.back hP hO2.1 hS1
      · skip
        omega
    · skip
      have hs4 := QS.dec2 hP c_5
      refine j_iload_n dX8_goes_8 (q := 9) rfl rfl ?_
      refine j_aload_n dX8_goes_9 (q := 10) rfl rfl ?_
      refine j_getIV fs_X8_205 rfl rfl hs4.2 dX8_goes_10 (q := 13) rfl ?_
      refine j_icmp_ltN (by omega) (by omega) dX8_goes_13 (t := 17) (by decide) (q := 16) rfl (fun c_13 => ?_) (fun c_13 => ?_)
      · skip
        have hlt : cn4 L < s.1 := by first | exact c_13 | (have := QS.dec1 hP c_5; omega)
        refine j_iload_n dX8_goes_17 (q := 18) rfl rfl ?_
        refine j_aload_n dX8_goes_18 (q := 19) rfl rfl ?_
        refine j_getR (r := 71) fs_X8_7 rfl rfl rfl dX8_goes_19 (q := 22) rfl ?_
        refine j_iconst (v := 5) dX8_goes_22 (q := 23) rfl (by decide) ?_
        refine j_ialdV (k := 5) rfl (by decide) hS.1 dX8_goes_23 (q := 24) rfl ?_
        refine j_icmp_neN (by omega) (by omega) dX8_goes_24 (t := 62) (by decide) (q := 27) rfl (fun c_24 => ?_) (fun c_24 => ?_)
        · skip
          refine j_aload_n dX8_goes_62 (q := 63) rfl rfl ?_
          refine j_iload_n dX8_goes_63 (q := 64) rfl rfl ?_
          refine j_iconst (v := 4) dX8_goes_64 (q := 65) rfl (by decide) ?_
          refine j_callVi2E (M' := M_X8_its) lk_X8_123 mv_X8_its ob_70 (by omega) (Nat.le_of_ble_eq_true rfl) dX8_goes_65 (q := 68) rfl (ct_X8_its (k := 4) (by omega) (by decide)) ?_
          rw [(hS.2.2.1 f (by omega)).1]
          refine j_istore_7_4 dX8_goes_68 (q := 70) rfl rfl rfl ?_
          have hd99 := (hS.2.2.1 f (by omega)).2
          refine j_iload dX8_goes_70 (q := 72) rfl rfl ?_
          refine j_iload_n dX8_goes_72 (q := 73) rfl rfl ?_
          refine j_icmp_gtN (by omega) (by omega) dX8_goes_73 (t := 93) (by decide) (q := 76) rfl (fun c_73 => ?_) (fun c_73 => ?_)
          · skip
            refine j_iconst (v := 0) dX8_goes_93 (q := 94) rfl (by decide) ?_
            refine j_istore_7_5 dX8_goes_94 (q := 96) rfl rfl rfl ?_
            rw [goP, if_neg (by omega), if_neg (by omega)]
            exact gw_loop (p := p) (v6 := .null) h7 h4 hm (by omega) (by omega) (hS.2.2.1 f (by omega)).2 (fun x hx => ⟨hLB x hx, (hS.2.2.2 x hx).2⟩) (F := fun c s => goP nc m D B k (f + 1) (updN L c (L c + D f)) (upd p f (nI c)) s) (fun c hc hl s σ hS hR hP => ih (f + 1) _ _ s σ (by omega) hS hR (fun x hx => updN_le hLB hl hx) hP) nc 0 s .null σ (by omega) hS hR hP QO.rfl'
          · skip
            refine j_aload_n dX8_goes_76 (q := 77) rfl rfl ?_
            refine j_getR (r := 79) fs_X8_34 rfl rfl rfl dX8_goes_77 (q := 80) rfl ?_
            refine j_iload_n dX8_goes_80 (q := 81) rfl rfl ?_
            refine j_iconst (v := (-1)) dX8_goes_81 (q := 82) rfl (by decide) ?_
            refine j_iastN rfl (by omega) dX8_goes_82 (q := 83) rfl ?_
            refine j_aload_n dX8_goes_83 (q := 84) rfl rfl ?_
            refine j_iload_n dX8_goes_84 (q := 85) rfl rfl ?_
            refine j_iconst (v := 1) dX8_goes_85 (q := 86) rfl (by decide) ?_
            refine j_iaddN (b := 1) dX8_goes_86 (q := 87) rfl ?_
            refine j_iload_n dX8_goes_87 (q := 88) rfl rfl ?_
            refine j_iload_n dX8_goes_88 (q := 89) rfl rfl ?_
            refine j_callVv3 (M' := M_X8_goes) lk_X8_208 mv_X8_goes ob_70 (by omega) (Nat.le_of_ble_eq_true rfl) dX8_goes_89 (q := 92) rfl (ih (f + 1) L (upd p f (-1)) s _ (by omega) (by rw [show up σ 79 f (-1) 71 = σ 71 from up_row (by decide)]; exact hS) (fun x hx => (up_nc (by decide)).trans (hR x hx)) hLB (QS.way hP)) ?_
            intro τ1 hz
            obtain ⟨_, hS1, hO1⟩ := hz
            have hO2 : QO f σ τ1 := QO.tr QO.way hO1 (Nat.le_succ f)
            refine j_vret dX8_goes_92 rfl ?_
            refine ⟨rfl, ?_, hO2⟩
            rw [goP, if_neg (by omega), if_pos (by omega)]
            exact QS.back hP hO2.1 hS1
        · skip
          omega
      · skip
        refine j_vret dX8_goes_16 rfl ?_
        exact ⟨rfl, by rw [goP, if_pos (by omega)]; exact hP, QO.rfl'⟩
