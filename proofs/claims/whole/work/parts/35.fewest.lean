def cn1 (x : Nat) : Nat := if 0 < x then 1 else 0
def cn4 (L : Nat → Nat) : Nat := cn1 (L 0) + cn1 (L 1) + cn1 (L 2) + cn1 (L 3)
def mk4 (L : Nat → Nat) : Nat := cn1 (L 0) + 2 * cn1 (L 1) + 4 * cn1 (L 2) + 8 * cn1 (L 3)
def updN (L : Nat → Nat) (c v : Nat) : Nat → Nat := fun x => if x = c then v else L x
def pop4 (u : Nat) : Nat := u % 2 + u / 2 % 2 + u / 4 % 2 + u / 8 % 2
theorem cn1_or (x : Nat) : cn1 x = 0 ∨ cn1 x = 1 := by unfold cn1; split <;> simp
theorem cn1_p {x : Nat} (h : 0 < x) : cn1 x = 1 := if_pos h
theorem mk4_lt (L : Nat → Nat) : mk4 L < 16 := by
  have a := cn1_or (L 0); have b := cn1_or (L 1); have c := cn1_or (L 2); have d := cn1_or (L 3)
  unfold mk4; omega
theorem cn4_le (L : Nat → Nat) : cn4 L ≤ 4 := by
  have a := cn1_or (L 0); have b := cn1_or (L 1); have c := cn1_or (L 2); have d := cn1_or (L 3)
  unfold cn4; omega
theorem pop_mk4 (L : Nat → Nat) : pop4 (mk4 L) = cn4 L := by
  have a := cn1_or (L 0); have b := cn1_or (L 1); have c := cn1_or (L 2); have d := cn1_or (L 3)
  unfold mk4 cn4 pop4; omega
theorem updN_at {L : Nat → Nat} {c v : Nat} : updN L c v c = v := if_pos rfl
theorem updN_ne {L : Nat → Nat} {c v x : Nat} (h : x ≠ c) : updN L c v x = L x := if_neg h
theorem cn4_add {L : Nat → Nat} {c d : Nat} (hc : c < 4) (hd : 0 < d) : cn4 (updN L c (L c + d)) = cn4 L + (if L c = 0 then 1 else 0) := by
  have h1 : cn1 (L c + d) = 1 := cn1_p (by omega)
  have h2 : cn1 (L c) = if L c = 0 then 0 else 1 := by
    unfold cn1
    by_cases e : L c = 0
    · rw [if_neg (by omega), if_pos e]
    · rw [if_pos (by omega), if_neg e]
  rcases (show c = 0 ∨ c = 1 ∨ c = 2 ∨ c = 3 by omega) with rfl | rfl | rfl | rfl <;>
    (unfold cn4; rw [updN_at, updN_ne (by decide), updN_ne (by decide), updN_ne (by decide), h1, h2]; split <;> omega)
theorem or16 : ∀ a, a < 2 → ∀ b, b < 2 → ∀ c, c < 2 → ∀ d, d < 2 → nI (a + 2 * b + 4 * c + 8 * d) ||| (1 <<< (nI 0 &&& 31)) = nI (1 + 2 * b + 4 * c + 8 * d) ∧ nI (a + 2 * b + 4 * c + 8 * d) ||| (1 <<< (nI 1 &&& 31)) = nI (a + 2 * 1 + 4 * c + 8 * d) ∧ nI (a + 2 * b + 4 * c + 8 * d) ||| (1 <<< (nI 2 &&& 31)) = nI (a + 2 * b + 4 * 1 + 8 * d) ∧ nI (a + 2 * b + 4 * c + 8 * d) ||| (1 <<< (nI 3 &&& 31)) = nI (a + 2 * b + 4 * c + 8 * 1) := by decide +kernel
theorem mk4_or {L : Nat → Nat} {c d : Nat} (hc : c < 4) (hd : 0 < d) : nI (mk4 L) ||| (1 <<< (nI c &&& 31)) = nI (mk4 (updN L c (L c + d))) := by
  have h1 : cn1 (L c + d) = 1 := cn1_p (by omega)
  have k : ∀ x, cn1 x < 2 := fun x => by have := cn1_or x; omega
  have h := or16 _ (k (L 0)) _ (k (L 1)) _ (k (L 2)) _ (k (L 3))
  rcases (show c = 0 ∨ c = 1 ∨ c = 2 ∨ c = 3 by omega) with rfl | rfl | rfl | rfl <;>
    (unfold mk4; rw [updN_at, updN_ne (by decide), updN_ne (by decide), updN_ne (by decide), h1])
  · exact h.1
  · exact h.2.1
  · exact h.2.2.1
  · exact h.2.2.2
def lpG {α : Type} (F : Nat → α → α) (ok : Nat → Bool) : Nat → Nat → α → α
  | 0, _, s => s
  | n + 1, c, s => lpG F ok n (c + 1) (if ok c = true then F c s else s)
abbrev SG := Nat × (Nat → Int32)
def goP (nc m : Nat) (D B : Nat → Nat) : Nat → Nat → (Nat → Nat) → (Nat → Int32) → SG → SG
  | 0, _, L, p, s => if s.1 ≤ cn4 L then s else (cn4 L, p)
  | k + 1, f, L, p, s => if s.1 ≤ cn4 L then s else if D f ≤ m then goP nc m D B k (f + 1) L (upd p f (-1)) s else lpG (fun c s => goP nc m D B k (f + 1) (updN L c (L c + D f)) (upd p f (nI c)) s) (fun c => decide (L c + D f ≤ B c)) nc 0 s
/-- the state of the search, as the class holds it -/
def PS (nf f : Nat) (p : Nat → Int32) (s : SG) (σ : S_) : Prop := σ 3 5 = nI s.1 ∧ s.1 ≤ 5 ∧ (s.1 ≠ 5 → ∀ j, j < nf → σ 7 j = s.2 j) ∧ ∀ j, j < f → σ 6 j = p j
def PO (nf f : Nat) (σ τ : S_) : Prop := (∀ j, nf ≤ j → τ 7 j = σ 7 j) ∧ (∀ j, j < f → τ 6 j = σ 6 j) ∧ τ 5 = σ 5 ∧ (∀ x, x ≠ 3 → x ≠ 5 → x ≠ 6 → x ≠ 7 → τ x = σ x) ∧ ∀ j, j ≠ 5 → τ 3 j = σ 3 j
def ST (nf nc : Nat) (D : Nat → Nat) (σ : S_) : Prop := σ 8 1 = nI nf ∧ σ 8 4 = nI nc ∧ ∀ j, j < nf → σ (16 + j) 4 = nI (D j) ∧ D j ≤ 99
theorem PO.st {nf f nc : Nat} {D : Nat → Nat} {σ τ : S_} (h : PO nf f σ τ) (h7 : nf ≤ 7) (hS : ST nf nc D σ) : ST nf nc D τ := by
  refine ⟨?_, ?_, fun j hj => ?_⟩
  · rw [h.2.2.2.1 8 (by decide) (by decide) (by decide) (by decide)]; exact hS.1
  · rw [h.2.2.2.1 8 (by decide) (by decide) (by decide) (by decide)]; exact hS.2.1
  · rw [h.2.2.2.1 (16 + j) (by omega) (by omega) (by omega) (by omega)]; exact hS.2.2 j hj
theorem PO.rfl' {nf f : Nat} {σ : S_} : PO nf f σ σ := ⟨fun _ _ => rfl, fun _ _ => rfl, rfl, fun _ _ _ _ _ => rfl, fun _ _ => rfl⟩
theorem PO.tr {nf f f' : Nat} {a b c : S_} (h : PO nf f a b) (h' : PO nf f' b c) (hf : f ≤ f') : PO nf f a c :=
  ⟨fun j hj => (h'.1 j hj).trans (h.1 j hj), fun j hj => (h'.2.1 j (by omega)).trans (h.2.1 j hj), h'.2.2.1.trans h.2.2.1, fun x p q r s => (h'.2.2.2.1 x p q r s).trans (h.2.2.2.1 x p q r s), fun j hj => (h'.2.2.2.2 j hj).trans (h.2.2.2.2 j hj)⟩
theorem PO.way {nf f : Nat} {σ : S_} {v : Int32} : PO nf f σ (up σ 6 f v) :=
  ⟨fun j _ => up_nc (by decide), fun j hj => up_nk (by omega), up_row (by decide), fun x _ _ h _ => up_row h, fun j _ => up_nc (by decide)⟩
theorem PS.way {nf f : Nat} {p : Nat → Int32} {s : SG} {σ : S_} {v : Int32} (h : PS nf f p s σ) : PS nf (f + 1) (upd p f v) s (up σ 6 f v) := by
  refine ⟨(up_nc (by decide)).trans h.1, h.2.1, fun e j hj => (up_nc (by decide)).trans (h.2.2.1 e j hj), fun j hj => ?_⟩
  by_cases e : j = f
  · subst e; rw [up_at, upd_at]
  · rw [up_nk e, upd_ne e]; exact h.2.2.2 j (by omega)
/-- below f the way is as it was -/
theorem PS.back {nf f : Nat} {p : Nat → Int32} {s s' : SG} {v : Int32} {σ τ : S_} (h : PS nf f p s σ) (hO : ∀ j, j < f → τ 6 j = σ 6 j) (h' : PS nf (f + 1) (upd p f v) s' τ) : PS nf f p s' τ :=
  ⟨h'.1, h'.2.1, h'.2.2.1, fun j hj => (hO j hj).trans (h.2.2.2 j hj)⟩
theorem PS.room {nf f : Nat} {p : Nat → Int32} {s : SG} {σ : S_} {c : Nat} {v : Int32} (h : PS nf f p s σ) : PS nf f p s (up σ 5 c v) :=
  ⟨(up_nc (by decide)).trans h.1, h.2.1, fun e j hj => (up_nc (by decide)).trans (h.2.2.1 e j hj), fun j hj => (up_nc (by decide)).trans (h.2.2.2 j hj)⟩
theorem ST.up {nf nc : Nat} {D : Nat → Nat} {σ : S_} {a c : Nat} {v : Int32} (h7 : nf ≤ 7) (h : ST nf nc D σ) (ha : a < 8) : ST nf nc D (up σ a c v) := by
  refine ⟨?_, ?_, fun j hj => ?_⟩
  · rw [up_row (by omega)]; exact h.1
  · rw [up_row (by omega)]; exact h.2.1
  · rw [up_row (by omega)]; exact h.2.2 j hj
/-- out of and into the room again -/
theorem PO.loop {nf f c : Nat} {σ τ : S_} {v v' w' : Int32} (h : PO nf (f + 1) (up (up σ 5 c v) 6 f w') τ) (hv : v' = σ 5 c) : PO nf f σ (up τ 5 c v') := by
  refine ⟨fun j hj => ?_, fun j hj => ?_, ?_, fun x p q r s => ?_, fun j hj => ?_⟩
  · rw [up_nc (by decide), h.1 j hj, up_nc (by decide), up_nc (by decide)]
  · rw [up_nc (by decide), h.2.1 j (by omega), up_nk (by omega), up_nc (by decide)]
  · rw [up_own, h.2.2.1, up_row (by decide), up_own, hv]
    funext x
    by_cases e : x = c
    · subst e; rw [upd_at]
    · rw [upd_ne e, upd_ne e]
  · rw [up_row q, h.2.2.2.1 x p q r s, up_row r, up_row q]
  · rw [up_nc (by decide), h.2.2.2.2 j hj, up_nc (by decide), up_nc (by decide)]
theorem ct_J6_bitCount_0f7a4 {g : GT} {σ : S_} {u : Nat} (hu : u < 16) : CT g 0 M_J6_bitCount_0f7a4 [.int (nI u)] σ (EQ (.int (nI (pop4 u))) σ) := by
  refine ct_of [.int (nI u)] pn_J6_bitCount_0f7a4 rfl (Nat.le_of_ble_eq_true rfl) ?_
  refine j_iload_n dJ6_bitCount_0f7a4_0 (q := 1) rfl rfl ?_
  refine j_iload_n dJ6_bitCount_0f7a4_1 (q := 2) rfl rfl ?_
  refine j_iconst (v := 1) dJ6_bitCount_0f7a4_2 (q := 3) rfl (by decide) ?_
  refine j_iushr dJ6_bitCount_0f7a4_3 (q := 4) rfl ?_
  refine j_ldcw cn_J6_265 dJ6_bitCount_0f7a4_4 (q := 7) rfl ?_
  refine j_iand dJ6_bitCount_0f7a4_7 (q := 8) rfl ?_
  refine j_isub dJ6_bitCount_0f7a4_8 (q := 9) rfl ?_
  refine j_istore_n_1_0 dJ6_bitCount_0f7a4_9 (q := 10) rfl rfl ?_
  refine j_iload_n dJ6_bitCount_0f7a4_10 (q := 11) rfl rfl ?_
  refine j_ldcw cn_J6_266 dJ6_bitCount_0f7a4_11 (q := 14) rfl ?_
  refine j_iand dJ6_bitCount_0f7a4_14 (q := 15) rfl ?_
  refine j_iload_n dJ6_bitCount_0f7a4_15 (q := 16) rfl rfl ?_
  refine j_iconst (v := 2) dJ6_bitCount_0f7a4_16 (q := 17) rfl (by decide) ?_
  refine j_iushr dJ6_bitCount_0f7a4_17 (q := 18) rfl ?_
  refine j_ldcw cn_J6_266 dJ6_bitCount_0f7a4_18 (q := 21) rfl ?_
  refine j_iand dJ6_bitCount_0f7a4_21 (q := 22) rfl ?_
  refine j_iadd dJ6_bitCount_0f7a4_22 (q := 23) rfl ?_
  refine j_istore_n_1_0 dJ6_bitCount_0f7a4_23 (q := 24) rfl rfl ?_
  refine j_iload_n dJ6_bitCount_0f7a4_24 (q := 25) rfl rfl ?_
  refine j_iload_n dJ6_bitCount_0f7a4_25 (q := 26) rfl rfl ?_
  refine j_iconst (v := 4) dJ6_bitCount_0f7a4_26 (q := 27) rfl (by decide) ?_
  refine j_iushr dJ6_bitCount_0f7a4_27 (q := 28) rfl ?_
  refine j_iadd dJ6_bitCount_0f7a4_28 (q := 29) rfl ?_
  refine j_ldcw cn_J6_267 dJ6_bitCount_0f7a4_29 (q := 32) rfl ?_
  refine j_iand dJ6_bitCount_0f7a4_32 (q := 33) rfl ?_
  refine j_istore_n_1_0 dJ6_bitCount_0f7a4_33 (q := 34) rfl rfl ?_
  refine j_iload_n dJ6_bitCount_0f7a4_34 (q := 35) rfl rfl ?_
  refine j_iload_n dJ6_bitCount_0f7a4_35 (q := 36) rfl rfl ?_
  refine j_bipush (v := 8) dJ6_bitCount_0f7a4_36 (q := 38) rfl (by decide) ?_
  refine j_iushr dJ6_bitCount_0f7a4_38 (q := 39) rfl ?_
  refine j_iadd dJ6_bitCount_0f7a4_39 (q := 40) rfl ?_
  refine j_istore_n_1_0 dJ6_bitCount_0f7a4_40 (q := 41) rfl rfl ?_
  refine j_iload_n dJ6_bitCount_0f7a4_41 (q := 42) rfl rfl ?_
  refine j_iload_n dJ6_bitCount_0f7a4_42 (q := 43) rfl rfl ?_
  refine j_bipush (v := 16) dJ6_bitCount_0f7a4_43 (q := 45) rfl (by decide) ?_
  refine j_iushr dJ6_bitCount_0f7a4_45 (q := 46) rfl ?_
  refine j_iadd dJ6_bitCount_0f7a4_46 (q := 47) rfl ?_
  refine j_istore_n_1_0 dJ6_bitCount_0f7a4_47 (q := 48) rfl rfl ?_
  refine j_iload_n dJ6_bitCount_0f7a4_48 (q := 49) rfl rfl ?_
  refine j_bipush (v := 63) dJ6_bitCount_0f7a4_49 (q := 51) rfl (by decide) ?_
  refine j_iand dJ6_bitCount_0f7a4_51 (q := 52) rfl ?_
  refine j_ireti dJ6_bitCount_0f7a4_52 rfl ?_
  refine ⟨congrArg Value.int ?_, rfl⟩
  rcases (show u = 0 ∨ u = 1 ∨ u = 2 ∨ u = 3 ∨ u = 4 ∨ u = 5 ∨ u = 6 ∨ u = 7 ∨ u = 8 ∨ u = 9 ∨ u = 10 ∨ u = 11 ∨ u = 12 ∨ u = 13 ∨ u = 14 ∨ u = 15 by omega) with rfl | rfl | rfl | rfl | rfl | rfl | rfl | rfl | rfl | rfl | rfl | rfl | rfl | rfl | rfl | rfl <;> decide +kernel
theorem pf_loop {g : GT} {nf nc m f : Nat} {D B L : Nat → Nat} {p : Nat → Int32} {k : Nat} {v4 : Value} {σ0 : S_} (h7 : nf ≤ 7) (h4 : nc ≤ 4) (hm : m ≤ 99) (hf : f < nf) (hD : m < D f) (hL : ∀ x, x < nc → L x ≤ B x ∧ B x ≤ 300) {F : Nat → SG → SG} (hrec : ∀ c, c < nc → L c + D f ≤ B c → ∀ s σ, ST nf nc D σ → (∀ x, x < nc → σ 5 x = nI (B x - updN L c (L c + D f) x)) → PS nf (f + 1) (upd p f (nI c)) s σ → CT g (k + 2) M_X4_placeFrom [.ref 3, .int (nI (f + 1)), .int (nI (mk4 (updN L c (L c + D f)))), .int (nI m)] σ (fun r τ => r = .null ∧ PS nf (f + 1) (upd p f (nI c)) (F c s) τ ∧ PO nf (f + 1) σ τ)) : ∀ (n c : Nat) (s : SG) (σ : S_), c + n = nc → ST nf nc D σ → (∀ x, x < nc → σ 5 x = nI (B x - L x)) → PS nf f p s σ → PO nf f σ0 σ → J g (k + 1 + 2) M_X4_placeFrom (fun r τ => r = .null ∧ PS nf f p (lpG F (fun c => decide (L c + D f ≤ B c)) n c s) τ ∧ PO nf f σ0 τ) 100 [.ref 3, .int (nI f), .int (nI (mk4 L)), .int (nI m), v4, .int (nI (D f)), .int (nI c)] [] σ := by
  intro n
  induction n with
  | zero =>
    intro c s σ hcn hS hR hP hO
    refine j_iload dX4_placeFrom_100 (q := 102) rfl rfl ?_
    refine j_aload_n dX4_placeFrom_102 (q := 103) rfl rfl ?_
    refine j_getR (r := 8) fs_X4_24 rfl rfl rfl dX4_placeFrom_103 (q := 106) rfl ?_
    refine j_getIV fs_X4_113 rfl rfl hS.2.1 dX4_placeFrom_106 (q := 109) rfl ?_
    refine j_icmp_geN (by omega) (by omega) dX4_placeFrom_109 (t := 176) (by decide) (q := 112) rfl (fun c_109 => ?_) (fun c_109 => ?_)
    · skip
      refine j_vret dX4_placeFrom_176 rfl ?_
      exact ⟨rfl, hP, hO⟩
    · skip
      omega
  | succ n ih =>
    intro c s σ hcn hS hR hP hO
    refine j_iload dX4_placeFrom_100 (q := 102) rfl rfl ?_
    refine j_aload_n dX4_placeFrom_102 (q := 103) rfl rfl ?_
    refine j_getR (r := 8) fs_X4_24 rfl rfl rfl dX4_placeFrom_103 (q := 106) rfl ?_
    refine j_getIV fs_X4_113 rfl rfl hS.2.1 dX4_placeFrom_106 (q := 109) rfl ?_
    have hb := hL c (by omega)
    have hd99 := (hS.2.2 f hf).2
    refine j_icmp_geN (by omega) (by omega) dX4_placeFrom_109 (t := 176) (by decide) (q := 112) rfl (fun c_109 => ?_) (fun c_109 => ?_)
    · skip
      omega
    · skip
      refine j_iload dX4_placeFrom_112 (q := 114) rfl rfl ?_
      refine j_aload_n dX4_placeFrom_114 (q := 115) rfl rfl ?_
      refine j_getR (r := 5) fs_X4_15 rfl rfl rfl dX4_placeFrom_115 (q := 118) rfl ?_
      refine j_iload dX4_placeFrom_118 (q := 120) rfl rfl ?_
      refine j_ialdV rfl (by omega) (hR c (by omega)) dX4_placeFrom_120 (q := 121) rfl ?_
      refine j_icmp_gtN (by omega) (by omega) dX4_placeFrom_121 (t := 170) (by decide) (q := 124) rfl (fun c_121 => ?_) (fun c_121 => ?_)
      · skip
        refine j_iincN_7_6 dX4_placeFrom_170 (q := 173) rfl rfl rfl ?_
        refine j_goto (q := 100) dX4_placeFrom_173 (by decide) ?_
        have hj := ih (c + 1) s σ (by omega) hS hR hP hO
        rw [show lpG F (fun c => decide (L c + D f ≤ B c)) (n + 1) c s = lpG F (fun c => decide (L c + D f ≤ B c)) n (c + 1) s from by rw [lpG, if_neg (by simp; omega)]]
        exact hj
      · skip
        refine j_aload_n dX4_placeFrom_124 (q := 125) rfl rfl ?_
        refine j_getR (r := 5) fs_X4_15 rfl rfl rfl dX4_placeFrom_125 (q := 128) rfl ?_
        refine j_iload dX4_placeFrom_128 (q := 130) rfl rfl ?_
        refine j_dup2 dX4_placeFrom_130 (q := 131) rfl rfl rfl ?_
        refine j_ialdV rfl (by omega) (hR c (by omega)) dX4_placeFrom_131 (q := 132) rfl ?_
        refine j_iload dX4_placeFrom_132 (q := 134) rfl rfl ?_
        refine j_isubN (by omega) dX4_placeFrom_134 (q := 135) rfl ?_
        refine j_iastN rfl (by omega) dX4_placeFrom_135 (q := 136) rfl ?_
        refine j_aload_n dX4_placeFrom_136 (q := 137) rfl rfl ?_
        refine j_getR (r := 6) fs_X4_18 rfl rfl rfl dX4_placeFrom_137 (q := 140) rfl ?_
        refine j_iload_n dX4_placeFrom_140 (q := 141) rfl rfl ?_
        refine j_iload dX4_placeFrom_141 (q := 143) rfl rfl ?_
        refine j_iastN rfl (by omega) dX4_placeFrom_143 (q := 144) rfl ?_
        have hR1 : ∀ x, x < nc → up (up σ 5 c (nI (B c - L c - D f))) 6 f (nI c) 5 x = nI (B x - updN L c (L c + D f) x) := by
          intro x hx
          rw [up_nc (by decide)]
          by_cases e : x = c
          · subst e; rw [up_at, updN_at]; congr 1; omega
          · rw [up_nk e, updN_ne e]; exact hR x hx
        refine j_aload_n dX4_placeFrom_144 (q := 145) rfl rfl ?_
        refine j_iload_n dX4_placeFrom_145 (q := 146) rfl rfl ?_
        refine j_iconst (v := 1) dX4_placeFrom_146 (q := 147) rfl (by decide) ?_
        refine j_iaddN (b := 1) dX4_placeFrom_147 (q := 148) rfl ?_
        refine j_iload_n dX4_placeFrom_148 (q := 149) rfl rfl ?_
        refine j_iconst (v := 1) dX4_placeFrom_149 (q := 150) rfl (by decide) ?_
        refine j_iload dX4_placeFrom_150 (q := 152) rfl rfl ?_
        refine j_ishl dX4_placeFrom_152 (q := 153) rfl ?_
        refine j_ior dX4_placeFrom_153 (q := 154) rfl ?_
        rw [mk4_or (d := D f) (by omega) (by omega)]
        refine j_iload_n dX4_placeFrom_154 (q := 155) rfl rfl ?_
        refine j_callVv3 (M' := M_X4_placeFrom) lk_X4_104 mv_X4_placeFrom ob_3 (by omega) (Nat.le_of_ble_eq_true rfl) dX4_placeFrom_155 (q := 158) rfl (hrec c (by omega) (by omega) s _ (ST.up h7 (ST.up h7 hS (by decide)) (by decide)) hR1 (PS.way (PS.room hP))) ?_
        intro τ1 hz
        obtain ⟨_, hS1, hO1⟩ := hz
        have hv5 : τ1 5 c = nI (B c - L c - D f) := by rw [hO1.2.2.1, up_row (by decide)]; exact up_at
        have hO2 := PO.loop hO1 (v' := nI (B c - L c - D f + D f)) (by rw [hR c (by omega)]; congr 1; omega)
        refine j_aload_n dX4_placeFrom_158 (q := 159) rfl rfl ?_
        refine j_getR (r := 5) fs_X4_15 rfl rfl rfl dX4_placeFrom_159 (q := 162) rfl ?_
        refine j_iload dX4_placeFrom_162 (q := 164) rfl rfl ?_
        refine j_dup2 dX4_placeFrom_164 (q := 165) rfl rfl rfl ?_
        refine j_ialdV rfl (by omega) hv5 dX4_placeFrom_165 (q := 166) rfl ?_
        refine j_iload dX4_placeFrom_166 (q := 168) rfl rfl ?_
        refine j_iaddN dX4_placeFrom_168 (q := 169) rfl ?_
        refine j_iastN rfl (by omega) dX4_placeFrom_169 (q := 170) rfl ?_
        refine j_iincN_7_6 dX4_placeFrom_170 (q := 173) rfl rfl rfl ?_
        refine j_goto (q := 100) dX4_placeFrom_173 (by decide) ?_
        rw [show lpG F (fun c => decide (L c + D f ≤ B c)) (n + 1) c s = lpG F (fun c => decide (L c + D f ≤ B c)) n (c + 1) (F c s) from by rw [lpG, if_pos (by simp; omega)]]
        exact ih (c + 1) (F c s) _ (by omega) (hO2.st h7 hS) (fun x hx => by rw [hO2.2.2.1]; exact hR x hx) (PS.room (PS.back hP (fun j hj => (up_nc (by decide)).symm.trans (hO2.2.1 j hj)) hS1)) (PO.tr hO hO2 (Nat.le_refl _))
theorem updN_le {L B : Nat → Nat} {nc c d x : Nat} (h : ∀ x, x < nc → L x ≤ B x) (hl : L c + d ≤ B c) (hx : x < nc) : updN L c (L c + d) x ≤ B x := by
  by_cases e : x = c
  · subst e; rw [updN_at]; exact hl
  · rw [updN_ne e]; exact h x hx
theorem nI_nn {n : Nat} (h : n < 2 ^ 31) : ¬ nI n < 0 := fun q => by
  have := (nI_lt_iff (b := 0) h (by decide)).mp q
  omega
/-- all farms have their carriers -/
theorem pf_leaf {nf nc m f : Nat} {D B : Nat → Nat} {L : Nat → Nat} {p : Nat → Int32} {s : SG} {σ : S_} (hf : f + 0 = nf) (h7 : nf ≤ 7) (hc : cn4 L < s.1) (hP : PS nf f p s σ) : Value.null = Value.null ∧ PS nf f p (goP nc m D B 0 f L p s) (upR (up σ 3 5 (nI (cn4 L))) 7 (va_cpy (up σ 3 5 (nI (cn4 L)) 6) (up σ 3 5 (nI (cn4 L)) 7) (0 : Int32).toNatClampNeg (0 : Int32).toNatClampNeg (nI f).toNatClampNeg)) ∧ PO nf f σ (upR (up σ 3 5 (nI (cn4 L))) 7 (va_cpy (up σ 3 5 (nI (cn4 L)) 6) (up σ 3 5 (nI (cn4 L)) 7) (0 : Int32).toNatClampNeg (0 : Int32).toNatClampNeg (nI f).toNatClampNeg)) := by
  have h4 := cn4_le L
  have hn : ∀ x f', x ≠ 7 → upR (up σ 3 5 (nI (cn4 L))) 7 f' x = up σ 3 5 (nI (cn4 L)) x := fun x f' h => by simp [upR, h]
  rw [pk_cl (x := (0 : Int32)) 0, pk_cl (x := nI f) f]
  rw [goP, if_neg (by omega)]
  refine ⟨rfl, ⟨?_, by show cn4 L ≤ 5; omega, fun _ j hj => ?_, fun j hj => ?_⟩, fun j hj => ?_, fun j hj => ?_, ?_, fun x a b c d => ?_, fun j hj => ?_⟩
  · rw [hn 3 _ (by decide)]; exact up_at
  · rw [upR_self]
    unfold va_cpy
    rw [if_pos (by omega), up_nc (by decide), show 0 + (j - 0) = j by omega]
    exact hP.2.2.2 j (by omega)
  · rw [hn 6 _ (by decide), up_nc (by decide)]; exact hP.2.2.2 j hj
  · rw [upR_self]
    unfold va_cpy
    rw [if_neg (by omega), up_nc (by decide)]
  · rw [hn 6 _ (by decide), up_nc (by decide)]
  · rw [hn 5 _ (by decide), up_row (by decide)]
  · rw [hn x _ d, up_row a]
  · rw [hn 3 _ (by decide), up_nk hj]
theorem pf_all {g : GT} {nf nc m : Nat} {D B : Nat → Nat} (h7 : nf ≤ 7) (h4 : nc ≤ 4) (hm : m ≤ 99) (hB : ∀ x, x < nc → B x ≤ 300) : ∀ (k f : Nat) (L : Nat → Nat) (p : Nat → Int32) (s : SG) (σ : S_), f + k = nf → ST nf nc D σ → (∀ x, x < nc → σ 5 x = nI (B x - L x)) → (∀ x, x < nc → L x ≤ B x) → PS nf f p s σ → CT g (k + 2) M_X4_placeFrom [.ref 3, .int (nI f), .int (nI (mk4 L)), .int (nI m)] σ (fun r τ => r = .null ∧ PS nf f p (goP nc m D B k f L p s) τ ∧ PO nf f σ τ) := by
  intro k
  induction k with
  | zero =>
    intro f L p s σ hfk hS hR hLB hP
    have hcn4 := cn4_le L
    have hs5 := hP.2.1
    refine ct_of [.ref 3, .int (nI f), .int (nI (mk4 L)), .int (nI m), .null, .null, .null] pn_X4_placeFrom rfl (Nat.le_of_ble_eq_true rfl) ?_
    refine j_iload_n dX4_placeFrom_0 (q := 1) rfl rfl ?_
    refine j_callSi1E (M' := M_J6_bitCount_0f7a4) lk_X4_108 ms_J6_bitCount_0f7a4 (by omega) (Nat.le_of_ble_eq_true rfl) dX4_placeFrom_1 (q := 4) rfl (ct_J6_bitCount_0f7a4 (mk4_lt L)) ?_
    rw [pop_mk4]
    refine j_istore_7_4 dX4_placeFrom_4 (q := 6) rfl rfl rfl ?_
    refine j_iload dX4_placeFrom_6 (q := 8) rfl rfl ?_
    refine j_aload_n dX4_placeFrom_8 (q := 9) rfl rfl ?_
    refine j_getIV fs_X4_101 rfl rfl hP.1 dX4_placeFrom_9 (q := 12) rfl ?_
    refine j_icmp_ltN (by omega) (by omega) dX4_placeFrom_12 (t := 16) (by decide) (q := 15) rfl (fun c_12 => ?_) (fun c_12 => ?_)
    · skip
      refine j_iload_n dX4_placeFrom_16 (q := 17) rfl rfl ?_
      refine j_aload_n dX4_placeFrom_17 (q := 18) rfl rfl ?_
      refine j_getR (r := 8) fs_X4_24 rfl rfl rfl dX4_placeFrom_18 (q := 21) rfl ?_
      refine j_getIV fs_X4_45 rfl rfl hS.1 dX4_placeFrom_21 (q := 24) rfl ?_
      refine j_icmp_geN (by omega) (by omega) dX4_placeFrom_24 (t := 33) (by decide) (q := 27) rfl (fun c_24 => ?_) (fun c_24 => ?_)
      · skip
        refine j_aload_n dX4_placeFrom_33 (q := 34) rfl rfl ?_
        refine j_iload dX4_placeFrom_34 (q := 36) rfl rfl ?_
        refine j_putI fs_X4_101 rfl rfl fp_4_5 dX4_placeFrom_36 (q := 39) rfl ?_
        refine j_aload_n dX4_placeFrom_39 (q := 40) rfl rfl ?_
        refine j_getR (r := 6) fs_X4_18 rfl rfl rfl dX4_placeFrom_40 (q := 43) rfl ?_
        refine j_iconst (v := 0) dX4_placeFrom_43 (q := 44) rfl (by decide) ?_
        refine j_aload_n dX4_placeFrom_44 (q := 45) rfl rfl ?_
        refine j_getR (r := 7) fs_X4_21 rfl rfl rfl dX4_placeFrom_45 (q := 48) rfl ?_
        refine j_iconst (v := 0) dX4_placeFrom_48 (q := 49) rfl (by decide) ?_
        refine j_aload_n dX4_placeFrom_49 (q := 50) rfl rfl ?_
        refine j_getR (r := 8) fs_X4_24 rfl rfl rfl dX4_placeFrom_50 (q := 53) rfl ?_
        refine j_getIV fs_X4_45 rfl rfl ((up_nc (by decide)).trans (hS.1.trans (congrArg nI (show nf = f by omega)))) dX4_placeFrom_53 (q := 56) rfl ?_
        refine j_copyI rfl rfl lk_X4_95 ac_n ac_s ac_i (by decide) (Nat.le_of_ble_eq_true rfl) (by decide) (by decide) (nI_nn (by omega)) (by rw [pk_cl 0, pk_cl f]; omega) (by rw [pk_cl 0, pk_cl f]; omega) dX4_placeFrom_56 (q := 59) rfl ?_
        refine j_vret dX4_placeFrom_59 rfl ?_
        exact pf_leaf hfk h7 (by omega) hP
      · skip
        omega
    · skip
      refine j_vret dX4_placeFrom_15 rfl ?_
      exact ⟨rfl, by rw [goP, if_pos (by omega)]; exact hP, PO.rfl'⟩
  | succ k ih =>
    intro f L p s σ hfk hS hR hLB hP
    have hcn4 := cn4_le L
    have hs5 := hP.2.1
    refine ct_of [.ref 3, .int (nI f), .int (nI (mk4 L)), .int (nI m), .null, .null, .null] pn_X4_placeFrom rfl (Nat.le_of_ble_eq_true rfl) ?_
    refine j_iload_n dX4_placeFrom_0 (q := 1) rfl rfl ?_
    refine j_callSi1E (M' := M_J6_bitCount_0f7a4) lk_X4_108 ms_J6_bitCount_0f7a4 (by omega) (Nat.le_of_ble_eq_true rfl) dX4_placeFrom_1 (q := 4) rfl (ct_J6_bitCount_0f7a4 (mk4_lt L)) ?_
    rw [pop_mk4]
    refine j_istore_7_4 dX4_placeFrom_4 (q := 6) rfl rfl rfl ?_
    refine j_iload dX4_placeFrom_6 (q := 8) rfl rfl ?_
    refine j_aload_n dX4_placeFrom_8 (q := 9) rfl rfl ?_
    refine j_getIV fs_X4_101 rfl rfl hP.1 dX4_placeFrom_9 (q := 12) rfl ?_
    refine j_icmp_ltN (by omega) (by omega) dX4_placeFrom_12 (t := 16) (by decide) (q := 15) rfl (fun c_12 => ?_) (fun c_12 => ?_)
    · skip
      refine j_iload_n dX4_placeFrom_16 (q := 17) rfl rfl ?_
      refine j_aload_n dX4_placeFrom_17 (q := 18) rfl rfl ?_
      refine j_getR (r := 8) fs_X4_24 rfl rfl rfl dX4_placeFrom_18 (q := 21) rfl ?_
      refine j_getIV fs_X4_45 rfl rfl hS.1 dX4_placeFrom_21 (q := 24) rfl ?_
      refine j_icmp_geN (by omega) (by omega) dX4_placeFrom_24 (t := 33) (by decide) (q := 27) rfl (fun c_24 => ?_) (fun c_24 => ?_)
      · skip
        omega
      · skip
        refine j_iload_n dX4_placeFrom_27 (q := 28) rfl rfl ?_
        refine j_bipush (v := 7) dX4_placeFrom_28 (q := 30) rfl (by decide) ?_
        refine j_icmp_ltN (b := 7) (by omega) (by omega) dX4_placeFrom_30 (t := 60) (by decide) (q := 33) rfl (fun c_30 => ?_) (fun c_30 => ?_)
        · skip
          have hd99 := (hS.2.2 f (by omega)).2
          refine j_aload_n dX4_placeFrom_60 (q := 61) rfl rfl ?_
          refine j_getR (r := 8) fs_X4_24 rfl rfl rfl dX4_placeFrom_61 (q := 64) rfl ?_
          refine j_getR (r := 9) fs_X4_48 rfl rfl rfl dX4_placeFrom_64 (q := 67) rfl ?_
          refine j_iload_n dX4_placeFrom_67 (q := 68) rfl rfl ?_
          refine j_aaldN rfl (by omega) (rf_farm (by omega)) dX4_placeFrom_68 (q := 69) rfl ?_
          refine j_getIV fs_X4_52 (tC_farm (by omega)) rfl (hS.2.2 f (by omega)).1 dX4_placeFrom_69 (q := 72) rfl ?_
          refine j_istore_7_5 dX4_placeFrom_72 (q := 74) rfl rfl rfl ?_
          refine j_iload dX4_placeFrom_74 (q := 76) rfl rfl ?_
          refine j_iload_n dX4_placeFrom_76 (q := 77) rfl rfl ?_
          refine j_icmp_gtN (by omega) (by omega) dX4_placeFrom_77 (t := 97) (by decide) (q := 80) rfl (fun c_77 => ?_) (fun c_77 => ?_)
          · skip
            refine j_iconst (v := 0) dX4_placeFrom_97 (q := 98) rfl (by decide) ?_
            refine j_istore_7_6 dX4_placeFrom_98 (q := 100) rfl rfl rfl ?_
            rw [goP, if_neg (by omega), if_neg (by omega)]
            exact pf_loop (p := p) h7 h4 hm (by omega) (by omega) (fun x hx => ⟨hLB x hx, hB x hx⟩) (F := fun c s => goP nc m D B k (f + 1) (updN L c (L c + D f)) (upd p f (nI c)) s) (fun c hc hl s σ hS hR hP => ih (f + 1) _ _ s σ (by omega) hS hR (fun x hx => updN_le hLB hl hx) hP) nc 0 s σ (by omega) hS hR hP PO.rfl'
          · skip
            refine j_aload_n dX4_placeFrom_80 (q := 81) rfl rfl ?_
            refine j_getR (r := 6) fs_X4_18 rfl rfl rfl dX4_placeFrom_81 (q := 84) rfl ?_
            refine j_iload_n dX4_placeFrom_84 (q := 85) rfl rfl ?_
            refine j_iconst (v := (-1)) dX4_placeFrom_85 (q := 86) rfl (by decide) ?_
            refine j_iastN rfl (by omega) dX4_placeFrom_86 (q := 87) rfl ?_
            refine j_aload_n dX4_placeFrom_87 (q := 88) rfl rfl ?_
            refine j_iload_n dX4_placeFrom_88 (q := 89) rfl rfl ?_
            refine j_iconst (v := 1) dX4_placeFrom_89 (q := 90) rfl (by decide) ?_
            refine j_iaddN (b := 1) dX4_placeFrom_90 (q := 91) rfl ?_
            refine j_iload_n dX4_placeFrom_91 (q := 92) rfl rfl ?_
            refine j_iload_n dX4_placeFrom_92 (q := 93) rfl rfl ?_
            refine j_callVv3 (M' := M_X4_placeFrom) lk_X4_104 mv_X4_placeFrom ob_3 (by omega) (Nat.le_of_ble_eq_true rfl) dX4_placeFrom_93 (q := 96) rfl (ih (f + 1) L (upd p f (-1)) s _ (by omega) (ST.up h7 hS (by decide)) (fun x hx => (up_nc (by decide)).trans (hR x hx)) hLB (PS.way hP)) ?_
            intro τ1 hz
            obtain ⟨_, hS1, hO1⟩ := hz
            have hO2 : PO nf f σ τ1 := PO.tr PO.way hO1 (Nat.le_succ f)
            refine j_vret dX4_placeFrom_96 rfl ?_
            refine ⟨rfl, ?_, hO2⟩
            rw [goP, if_neg (by omega), if_pos (by omega)]
            exact PS.back hP hO2.2.1 hS1
        · skip
          omega
    · skip
      refine j_vret dX4_placeFrom_15 rfl ?_
      exact ⟨rfl, by rw [goP, if_pos (by omega)]; exact hP, PO.rfl'⟩
/-- DRY and BELLY as numbers -/
def NB (t : Nat → Int32) (nf nc : Nat) (D B : Nat → Nat) : Prop := (∀ j, j < nf → t (10 + 6 * j + 4) = nI (D j) ∧ D j ≤ 99) ∧ ∀ c, c < nc → t (52 + 2 * c) = nI (B c) ∧ B c ≤ 300
theorem BD.nb {t : Nat → Int32} {nf nc : Nat} (h : BD t) (h7 : nf ≤ 7) (h4 : nc ≤ 4) : ∃ D B, NB t nf nc D B := by
  have h1 : ∀ j, ∃ d, j < nf → t (10 + 6 * j + 4) = nI d ∧ d ≤ 99 := fun j => by
    by_cases e : j < nf
    · obtain ⟨d, hd, q⟩ := bw_nI (h := 99) (h.fb (n := j) (by omega)).2.2.2.2.1 (by decide)
      exact ⟨d, fun _ => ⟨q, hd⟩⟩
    · exact ⟨0, fun q => absurd q e⟩
  have h2 : ∀ c, ∃ d, c < nc → t (52 + 2 * c) = nI d ∧ d ≤ 300 := fun c => by
    by_cases e : c < nc
    · obtain ⟨d, hd, q⟩ := bw_nI (h := 300) (h.car (c := c) (by omega)).1 (by decide)
      exact ⟨d, fun _ => ⟨q, hd⟩⟩
    · exact ⟨0, fun q => absurd q e⟩
  exact ⟨fun j => (h1 j).choose, fun c => (h2 c).choose, fun j hj => (h1 j).choose_spec hj, fun c hc => (h2 c).choose_spec hc⟩
def fewP (nf nc m : Nat) (D B : Nat → Nat) : SG := goP nc m D B nf 0 (fun _ => 0) (fun _ => -1) (5, fun _ => -1)
def ZF (nf : Nat) (s : SG) (σ : S_) (ok : Nat → Prop) (r : Int32) (τ : S_) : Prop := r = (if 4 < s.1 then -1 else nI s.1) ∧ (s.1 ≠ 5 → ∀ j, j < nf → τ 7 j = s.2 j) ∧ (∀ j, nf ≤ j → j < 7 → τ 7 j = -1) ∧ ∀ x, ok x → τ x = σ x
theorem fc_end {g : GT} {t : Nat → Int32} {nf nc m : Nat} {D B : Nat → Nat} (hn : t 5 = nI nf) (h7 : nf ≤ 7) (hcn : t 6 = nI nc) (h4 : nc ≤ 4) (hm : m ≤ 99) (hN : NB t nf nc D B) {σ0 σ : S_} {v2 : Value} (hC : CW σ0 8 t) (h5 : ∀ x, x < nc → σ 5 x = nI (B x)) (hw : ∀ j, j < 7 → σ 7 j = -1) (hO : ∀ x, x < 3 ∨ 8 ≤ x → σ x = σ0 x) : J g 10 M_X4_fewestCarriers (fun r τ => ∃ x, r = .int x ∧ ZF nf (fewP nf nc m D B) σ0 (fun x => x < 3 ∨ 8 ≤ x) x τ) 42 [.ref 3, .int (nI m), v2] [] σ := by
  refine j_aload_n dX4_fewestCarriers_42 (q := 43) rfl rfl ?_
  refine j_iconst (v := 5) dX4_fewestCarriers_43 (q := 44) rfl (by decide) ?_
  refine j_putI fs_X4_101 rfl rfl fp_4_5 dX4_fewestCarriers_44 (q := 47) rfl ?_
  have hST : ST nf nc D (up σ 3 5 5) := by
    refine ST.up h7 ⟨?_, ?_, fun j hj => ?_⟩ (by decide)
    · rw [hO 8 (Or.inr (by decide))]; exact (hC.at LM_farms).trans hn
    · rw [hO 8 (Or.inr (by decide))]; exact (hC.at LM_carriers).trans hcn
    · rw [hO (16 + j) (Or.inr (by omega)), hC.farm (by omega) (by decide)]; exact hN.1 j hj
  refine j_aload_n dX4_fewestCarriers_47 (q := 48) rfl rfl ?_
  refine j_iconst (v := 0) dX4_fewestCarriers_48 (q := 49) rfl (by decide) ?_
  refine j_iconst (v := 0) dX4_fewestCarriers_49 (q := 50) rfl (by decide) ?_
  refine j_iload_n dX4_fewestCarriers_50 (q := 51) rfl rfl ?_
  refine j_callVv3 (M' := M_X4_placeFrom) lk_X4_104 mv_X4_placeFrom ob_3 (show nf + 2 + 1 ≤ 10 by omega) (Nat.le_of_ble_eq_true rfl) dX4_fewestCarriers_51 (q := 54) rfl (pf_all (nc := nc) (D := D) (B := B) h7 h4 hm (fun x hx => (hN.2 x hx).2) nf 0 (fun _ => 0) (fun _ => -1) (5, fun _ => -1) _ (by omega) hST (fun x hx => (up_nc (by decide)).trans (h5 x hx)) (fun _ _ => Nat.zero_le _) ⟨up_at, Nat.le_refl 5, fun q => absurd rfl q, fun j hj => absurd hj (by omega)⟩) ?_
  intro τ1 hz
  obtain ⟨_, hS1, hO1⟩ := hz
  have hS2 := hS1.2.1
  refine j_aload_n dX4_fewestCarriers_54 (q := 55) rfl rfl ?_
  refine j_getIV fs_X4_101 rfl rfl hS1.1 dX4_fewestCarriers_55 (q := 58) rfl ?_
  refine j_iconst (v := 4) dX4_fewestCarriers_58 (q := 59) rfl (by decide) ?_
  refine j_icmp_leN (b := 4) (by omega) (by omega) dX4_fewestCarriers_59 (t := 66) (by decide) (q := 62) rfl (fun c_59 => ?_) (fun c_59 => ?_)
  · skip
    refine j_aload_n dX4_fewestCarriers_66 (q := 67) rfl rfl ?_
    refine j_getIV fs_X4_101 rfl rfl hS1.1 dX4_fewestCarriers_67 (q := 70) rfl ?_
    refine j_ireti dX4_fewestCarriers_70 rfl ?_
    refine ⟨_, rfl, ?_, hS1.2.2.1, fun j a b => (hO1.1 j a).trans ((up_nc (by decide)).trans (hw j b)), fun x hx => (hO1.2.2.2.1 x (by omega) (by omega) (by omega) (by omega)).trans ((up_row (by omega)).trans (hO x hx))⟩
    exact (if_neg (by unfold fewP; omega)).symm
  · skip
    refine j_iconst (v := (-1)) dX4_fewestCarriers_62 (q := 63) rfl (by decide) ?_
    refine j_goto (q := 70) dX4_fewestCarriers_63 (by decide) ?_
    refine j_ireti dX4_fewestCarriers_70 rfl ?_
    refine ⟨_, rfl, ?_, hS1.2.2.1, fun j a b => (hO1.1 j a).trans ((up_nc (by decide)).trans (hw j b)), fun x hx => (hO1.2.2.2.1 x (by omega) (by omega) (by omega) (by omega)).trans ((up_row (by omega)).trans (hO x hx))⟩
    exact (if_pos (by unfold fewP; omega)).symm
theorem fc_loop {g : GT} {t : Nat → Int32} {nf nc m : Nat} {D B : Nat → Nat} (hn : t 5 = nI nf) (h7 : nf ≤ 7) (hcn : t 6 = nI nc) (h4 : nc ≤ 4) (hm : m ≤ 99) (hN : NB t nf nc D B) {σ0 : S_} (hC : CW σ0 8 t) : ∀ (k i : Nat) (σ : S_), i + k = 7 → (∀ x, x < nc → σ 5 x = nI (B x)) → (∀ j, j < i → σ 7 j = -1) → (∀ x, x < 3 ∨ 8 ≤ x → σ x = σ0 x) → J g 10 M_X4_fewestCarriers (fun r τ => ∃ x, r = .int x ∧ ZF nf (fewP nf nc m D B) σ0 (fun x => x < 3 ∨ 8 ≤ x) x τ) 23 [.ref 3, .int (nI m), .int (nI i)] [] σ := by
  intro k
  induction k with
  | zero =>
    intro i σ hik h5 hw hO
    refine j_iload_n dX4_fewestCarriers_23 (q := 24) rfl rfl ?_
    refine j_bipush (v := 7) dX4_fewestCarriers_24 (q := 26) rfl (by decide) ?_
    refine j_icmp_geN (b := 7) (by omega) (by omega) dX4_fewestCarriers_26 (t := 42) (by decide) (q := 29) rfl (fun c_26 => ?_) (fun c_26 => ?_)
    · skip
      exact fc_end hn h7 hcn h4 hm hN hC h5 (fun j hj => hw j (by omega)) hO
    · skip
      omega
  | succ k ih =>
    intro i σ hik h5 hw hO
    refine j_iload_n dX4_fewestCarriers_23 (q := 24) rfl rfl ?_
    refine j_bipush (v := 7) dX4_fewestCarriers_24 (q := 26) rfl (by decide) ?_
    refine j_icmp_geN (b := 7) (by omega) (by omega) dX4_fewestCarriers_26 (t := 42) (by decide) (q := 29) rfl (fun c_26 => ?_) (fun c_26 => ?_)
    · skip
      omega
    · skip
      refine j_aload_n dX4_fewestCarriers_29 (q := 30) rfl rfl ?_
      refine j_getR (r := 7) fs_X4_21 rfl rfl rfl dX4_fewestCarriers_30 (q := 33) rfl ?_
      refine j_iload_n dX4_fewestCarriers_33 (q := 34) rfl rfl ?_
      refine j_iconst (v := (-1)) dX4_fewestCarriers_34 (q := 35) rfl (by decide) ?_
      refine j_iastN rfl (by omega) dX4_fewestCarriers_35 (q := 36) rfl ?_
      refine j_iincN_3_2 dX4_fewestCarriers_36 (q := 39) rfl rfl rfl ?_
      refine j_goto (q := 23) dX4_fewestCarriers_39 (by decide) ?_
      refine ih (i + 1) _ (by omega) (fun x hx => (up_nc (by decide)).trans (h5 x hx)) (fun j hj => ?_) (fun x hx => (up_row (by omega)).trans (hO x hx))
      by_cases e : j = i
      · subst e; exact up_at
      · exact (up_nk e).trans (hw j (by omega))
theorem ct_X4_fewestCarriers {g : GT} {σ : S_} {t : Nat → Int32} {nf nc m : Nat} {D B : Nat → Nat} (hn : t 5 = nI nf) (h7 : nf ≤ 7) (hcn : t 6 = nI nc) (h4 : nc ≤ 4) (hm : m ≤ 99) (hN : NB t nf nc D B) (hC : CW σ 8 t) : CT g 10 M_X4_fewestCarriers [.ref 3, .int (nI m)] σ (fun r τ => ∃ x, r = .int x ∧ ZF nf (fewP nf nc m D B) σ (fun x => x < 3 ∨ 8 ≤ x) x τ) := by
  refine ct_of [.ref 3, .int (nI m), .null] pn_X4_fewestCarriers rfl (Nat.le_of_ble_eq_true rfl) ?_
  refine j_aload_n dX4_fewestCarriers_0 (q := 1) rfl rfl ?_
  refine j_getR (r := 8) fs_X4_24 rfl rfl rfl dX4_fewestCarriers_1 (q := 4) rfl ?_
  refine j_getR (r := 10) fs_X4_92 rfl rfl rfl dX4_fewestCarriers_4 (q := 7) rfl ?_
  refine j_iconst (v := 0) dX4_fewestCarriers_7 (q := 8) rfl (by decide) ?_
  refine j_aload_n dX4_fewestCarriers_8 (q := 9) rfl rfl ?_
  refine j_getR (r := 5) fs_X4_15 rfl rfl rfl dX4_fewestCarriers_9 (q := 12) rfl ?_
  refine j_iconst (v := 0) dX4_fewestCarriers_12 (q := 13) rfl (by decide) ?_
  refine j_aload_n dX4_fewestCarriers_13 (q := 14) rfl rfl ?_
  refine j_getR (r := 5) fs_X4_15 rfl rfl rfl dX4_fewestCarriers_14 (q := 17) rfl ?_
  refine j_alen (n := 4) (.inl rfl) dX4_fewestCarriers_17 (q := 18) rfl ?_
  refine j_copyI rfl rfl lk_X4_95 ac_n ac_s ac_i (by decide) (Nat.le_of_ble_eq_true rfl) (by decide) (by decide) (nI_nn (n := 4) (by decide)) (by decide) (by decide) dX4_fewestCarriers_18 (q := 21) rfl ?_
  refine j_iconst (v := 0) dX4_fewestCarriers_21 (q := 22) rfl (by decide) ?_
  refine j_istore_n_3_2 dX4_fewestCarriers_22 (q := 23) rfl rfl rfl ?_
  refine fc_loop (σ0 := σ) hn h7 hcn h4 hm hN hC 7 0 _ (by omega) (fun x hx => ?_) (fun j hj => absurd hj (by omega)) (fun x hx => by simp [upR]; omega)
  rw [upR_self, pk_cl (x := (0 : Int32)) 0, pk_cl (x := nI 4) 4]
  unfold va_cpy
  rw [if_pos (by omega), show 0 + (x - 0) = x by omega]
  exact (hC.at (LM_belly x (by omega))).trans (hN.2 x hx).1
theorem ct_X4_carrierOf {g : GT} {σ : S_} {f : Nat} (hf : f < 7) : CT g 1 M_X4_carrierOf [.ref 3, .int (nI f)] σ (EQ (.int (σ 7 f)) σ) := by
  refine ct_of [.ref 3, .int (nI f)] pn_X4_carrierOf rfl (Nat.le_of_ble_eq_true rfl) ?_
  refine j_iload_n dX4_carrierOf_0 (q := 1) rfl rfl ?_
  refine j_iconst (v := 0) dX4_carrierOf_1 (q := 2) rfl (by decide) ?_
  refine j_bipush (v := 6) dX4_carrierOf_2 (q := 4) rfl (by decide) ?_
  refine j_callSi3E (M' := M_X7_within) lk_X4_41 ms_X7_within (by decide) (Nat.le_of_ble_eq_true rfl) dX4_carrierOf_4 (q := 7) rfl (ct_X7_within) ?_
  refine j_ifeqB dX4_carrierOf_7 (t := 19) (by decide) (q := 10) rfl (fun c_7 => ?_) (fun c_7 => ?_)
  · skip
    refine j_aload_n dX4_carrierOf_10 (q := 11) rfl rfl ?_
    refine j_getR (r := 7) fs_X4_21 rfl rfl rfl dX4_carrierOf_11 (q := 14) rfl ?_
    refine j_iload_n dX4_carrierOf_14 (q := 15) rfl rfl ?_
    refine j_ialdN rfl (by omega) dX4_carrierOf_15 (q := 16) rfl ?_
    refine j_goto (q := 20) dX4_carrierOf_16 (by decide) ?_
    refine j_ireti dX4_carrierOf_20 rfl ?_
    exact ⟨rfl, rfl⟩
  · skip
    exact absurd (inK (b := 6) (by omega) (by decide)) c_7
