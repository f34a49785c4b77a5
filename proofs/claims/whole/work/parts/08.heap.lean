-- fields and arrays
/-- a word of the tables, by its place -/
theorem mw (i : Nat) (w : Cond) (h : lw_tbl[i]? = some w) (hg : goodWord w = true) : w ∈ lw_g := List.mem_filter.mpr ⟨List.mem_of_getElem? h, hg⟩
theorem mwn (i : Nat) (w : Cond) (h : lw_tbl[i]? = some w) (hg : isNst w = true) : w ∈ lw_n := List.mem_filter.mpr ⟨List.mem_of_getElem? h, hg⟩
theorem cls_in : ∀ (c : Nat) (q : vw_C), clsL[c]? = some q → ∀ w ∈ u_ws q.1 q.2.1 q.2.2, w ∈ lw_g := by
  intro c q h w hw
  have h1 : clsL.all (fun q => (u_ws q.1 q.2.1 q.2.2).all fun w => decide (w ∈ lw_tbl) && goodWord w) = true := by decide +kernel
  have h2 := List.all_eq_true.mp (List.all_eq_true.mp h1 q (List.mem_of_getElem? h)) w hw
  simp only [Bool.and_eq_true, decide_eq_true_eq] at h2
  exact List.mem_filter.mpr h2
theorem cls_ty : ∀ (c : Nat) (q : vw_C), clsL[c]? = some q → (∀ a, a < q.2.2 → ∀ b, b < q.2.2 → a ≠ b → (q.2.1 a).2.1 ≠ (q.2.1 b).2.1) ∧ ∃ ty : Nat → FieldType, ∀ k, k < q.2.2 → parseFieldDescriptor (q.2.1 k).2.2.1 = some (ty k) := by
  intro c q h
  match c, h with
  | 0, h => cases h; exact ⟨nmX0, _, tyX0_ok⟩
  | 1, h => cases h; exact ⟨nmX1, _, tyX1_ok⟩
  | 2, h => cases h; exact ⟨nmX2, _, tyX2_ok⟩
  | 3, h => cases h; exact ⟨nmX3, _, tyX3_ok⟩
  | 4, h => cases h; exact ⟨nmX4, _, tyX4_ok⟩
  | 5, h => cases h; exact ⟨nmX5, _, tyX5_ok⟩
  | 6, h => cases h; exact ⟨nmX6, _, tyX6_ok⟩
  | 7, h => cases h; exact ⟨nmX7, _, tyX7_ok⟩
  | 8, h => cases h; exact ⟨nmX8, _, tyX8_ok⟩
  | c + 9, h => simp [clsL] at h
theorem fT_len : ∀ (c : Nat) (q : vw_C), clsL[c]? = some q → (fT c).length = q.2.2 := by
  intro c q h
  match c, h with
  | 0, h => cases h; rfl
  | 1, h => cases h; rfl
  | 2, h => cases h; rfl
  | 3, h => cases h; rfl
  | 4, h => cases h; rfl
  | 5, h => cases h; rfl
  | 6, h => cases h; rfl
  | 7, h => cases h; rfl
  | 8, h => cases h; rfl
  | c + 9, h => simp [clsL] at h
/-- place idx of a class's constants is field k of class c -/
def FS (own : String) (idx ci k : Nat) : Prop := ∃ q : vw_C, clsL[ci]? = some q ∧ k < q.2.2 ∧ (Cond.fieldLink own idx (q.2.1 k).1 (q.2.1 k).2.1 (q.2.1 k).2.2.1 ∈ lw_g ∨ ∃ host, Cond.fieldLinkNest own idx (q.2.1 k).1 (q.2.1 k).2.1 (q.2.1 k).2.2.1 host ∈ lw_n)
theorem tC_lt {a : Nat} {x : Nat × Nat} (h : tC[a]? = some x) : a < 87 := by
  have := (List.getElem?_eq_some_iff.mp h).1
  exact this
def flds (g : GT) (σ : S_) (a ci : Nat) : List Value := (List.range (fT ci).length).map (fun k => vV g σ a k ((fT ci).getD k 0))
theorem cel_obj {g : GT} {σ : S_} {a ci : Nat} (h : tC[a]? = some (3, ci)) : cel g σ a = .inr (ci, flds g σ a ci) := by
  unfold cel
  rw [h]
  rfl
theorem cel_int {g : GT} {σ : S_} {a n : Nat} (h : tC[a]? = some (0, n)) : cel g σ a = .inl (gcA g a, n, .inl (σ a)) := by
  unfold cel
  rw [h]
  rfl
theorem cel_byt {g : GT} {σ : S_} {a n : Nat} (h : tC[a]? = some (1, n)) : cel g σ a = .inl (gcA g a, n, .inl (fun i => vp_nar .byte (σ a i))) := by
  unfold cel
  rw [h]
  rfl
theorem cel_ref {g : GT} {σ : S_} {a n : Nat} (h : tC[a]? = some (2, n)) : cel g σ a = .inl (gcA g a, n, .inr (.inr (.inr (.inr (fun i => some (gad g (rf a i))))))) := by
  unfold cel
  rw [h]
  rfl
theorem flds_at {g : GT} {σ : S_} {a ci k : Nat} (hk : k < (fT ci).length) : (flds g σ a ci)[k]? = some (vV g σ a k ((fT ci).getD k 0)) := by
  unfold flds
  rw [List.getElem?_map, List.getElem?_range hk]
  rfl
theorem flds_set {g : GT} {σ : S_} {a ci k : Nat} {x : Int32} (hk : k < (fT ci).length) : (flds g σ a ci).set k (vV g (up σ a k x) a k ((fT ci).getD k 0)) = flds g (up σ a k x) a ci := by
  apply List.ext_getElem?
  intro j
  have hlen : (flds g σ a ci).length = (fT ci).length := by simp [flds]
  by_cases hj : j = k
  · subst hj
    rw [List.getElem?_set_self (by rw [hlen]; exact hk), flds_at hk]
  · rw [List.getElem?_set_ne (Ne.symm hj)]
    by_cases hj2 : j < (fT ci).length
    · rw [flds_at hj2, flds_at hj2]
      have e : (up σ a k x) a j = σ a j := by simp [up, hj]
      unfold vV
      rw [e]
    · rw [List.getElem?_eq_none (by rw [hlen]; omega), List.getElem?_eq_none (by simp [flds]; omega)]
theorem cws_putO {g : GT} {σ : S_} {a ci k : Nat} {x : Int32} (h : tC[a]? = some (3, ci)) (hk : k < (fT ci).length) : (cws g σ).set a (gad g a, .inr (ci, (flds g σ a ci).set k (vV g (up σ a k x) a k ((fT ci).getD k 0)))) = cws g (up σ a k x) := by
  rw [flds_set hk, ← cel_obj h]
  exact cws_set g (tC_lt h) (fun j hj => cel_up_ne g σ hj)
theorem cws_putI {g : GT} {σ : S_} {a n k : Nat} {x : Int32} (h : tC[a]? = some (0, n)) : (cws g σ).set a (gad g a, .inl (gcA g a, n, .inl (upd (σ a) k x))) = cws g (up σ a k x) := by
  have e1 : upd (σ a) k x = (up σ a k x) a := by funext j; simp [up, upd]
  rw [e1, ← cel_int h]
  exact cws_set g (tC_lt h) (fun j hj => cel_up_ne g σ hj)
theorem cws_putB {g : GT} {σ : S_} {a n k : Nat} {x : Int32} (h : tC[a]? = some (1, n)) : (cws g σ).set a (gad g a, .inl (gcA g a, n, .inl (upd (fun i => vp_nar .byte (σ a i)) k (vp_nar .byte x)))) = cws g (up σ a k x) := by
  have e1 : upd (fun i => vp_nar .byte (σ a i)) k (vp_nar .byte x) = fun i => vp_nar .byte ((up σ a k x) a i) := by
    funext j
    by_cases hj : j = k
    · simp [up, upd, hj]
    · simp [up, upd, hj]
  rw [e1, ← cel_byt h]
  exact cws_set g (tC_lt h) (fun j hj => cel_up_ne g σ hj)
/-- a row of the ints of a cell, all at once -/
def upR (σ : S_) (a : Nat) (f : Nat → Int32) : S_ := fun b => if b = a then f else σ b
theorem cel_upR_ne (g : GT) (σ : S_) {a : Nat} {f : Nat → Int32} {j : Nat} (h : j ≠ a) : cel g σ j = cel g (upR σ a f) j := by
  have e : (upR σ a f) j = σ j := by simp [upR, h]
  unfold cel vV
  rw [e]
theorem upR_self (σ : S_) (a : Nat) (f : Nat → Int32) : upR σ a f a = f := by simp [upR]
theorem cws_rowI {g : GT} {σ : S_} {a n : Nat} {f : Nat → Int32} (h : tC[a]? = some (0, n)) : (cws g σ).set a (gad g a, .inl (gcA g a, n, .inl f)) = cws g (upR σ a f) := by
  have e1 : f = (upR σ a f) a := (upR_self σ a f).symm
  rw [show (Sum.inl (gcA g a, n, Sum.inl f) : va_E) = cel g (upR σ a f) a from by rw [cel_int h, ← e1]]
  exact cws_set g (tC_lt h) (fun j hj => cel_upR_ne g σ hj)
theorem cws_rowB {g : GT} {σ : S_} {a n : Nat} {f : Nat → Int32} (h : tC[a]? = some (1, n)) : (cws g σ).set a (gad g a, .inl (gcA g a, n, .inl (fun i => vp_nar .byte (f i)))) = cws g (upR σ a f) := by
  have e1 : f = (upR σ a f) a := (upR_self σ a f).symm
  rw [show (Sum.inl (gcA g a, n, Sum.inl (fun i => vp_nar .byte (f i))) : va_E) = cel g (upR σ a f) a from by rw [cel_byt h, ← e1]]
  exact cws_set g (tC_lt h) (fun j hj => cel_upR_ne g σ hj)
theorem aty_int {a n : Nat} (h : tC[a]? = some (0, n)) : aty a = some .int := by unfold aty; rw [h]; rfl
theorem aty_byt {a n : Nat} (h : tC[a]? = some (1, n)) : aty a = some .byte := by unfold aty; rw [h]; rfl
theorem aty_ref {a n : Nat} (h : tC[a]? = some (2, n)) : aty a = some (.object (rcl a)) := by unfold aty; rw [h]; rfl
section JH
variable {g : GT} {d : Nat} {M : MM} {Z : Value → S_ → Prop} {pc q : Nat} {ls st : List Value} {σ : S_}
theorem j_getV {a ci k idx : Nat} (hf : FS M.1.cls idx ci k) (ho : tC[a]? = some (3, ci)) {v : Value} (hv0 : vV g σ a k ((fT ci).getD k 0) = tr g v) (hdg : decode M.2.1 pc = .ok (.getfield idx, 3)) (hq : pc + 3 = q) (h : J g d M Z q ls (v :: st) σ) : J g d M Z pc ls (.ref a :: st) σ := by
  subst hq
  intro p e R s m args below meth c H locs cells slots Q arr C hS hP hv K
  obtain ⟨hx, hb, hml, hown, hts, hA, hK, hSt, hSk, hR, hc⟩ := id C
  obtain ⟨⟨CC, TT, NN⟩, h1, h2, h3⟩ := hf
  have hk : k < (fT ci).length := by rw [fT_len ci _ h1]; exact h2
  have he : (cws g σ)[a]? = some (gad g a, .inr (ci, flds g σ a ci)) := by rw [cws_at g σ (tC_lt ho), cel_obj ho]
  have kk := h p e R s m args below meth c H locs cells slots Q arr C hS hP hv K
  have hfv := flds_at (g := g) (σ := σ) (a := a) hk
  rw [hv0] at hfv
  rcases h3 with h3 | ⟨host, h3⟩
  · exact va_get hx hb hts (cls_in ci _ h1) hown hK.K hP a he h1 k h2 (hts _ h3) (fun _ z => z) hfv hdg kk
  · exact va_getN hx hb hts (cls_in ci _ h1) hown hK.K hP a he h1 k h2 (hSk.nst h3) (fun _ z => z) hfv hdg kk
theorem j_getI {a ci k idx : Nat} (hf : FS M.1.cls idx ci k) (ho : tC[a]? = some (3, ci)) (ht : (fT ci).getD k 0 = 0) (hdg : decode M.2.1 pc = .ok (.getfield idx, 3)) (hq : pc + 3 = q) (h : J g d M Z q ls (.int (σ a k) :: st) σ) : J g d M Z pc ls (.ref a :: st) σ :=
  j_getV hf ho (v := .int (σ a k)) (by rw [ht]; rfl) hdg hq h
theorem j_getR {a ci k idx r : Nat} (hf : FS M.1.cls idx ci k) (ho : tC[a]? = some (3, ci)) (ht : (fT ci).getD k 0 = 1) (hr : rf a k = r) (hdg : decode M.2.1 pc = .ok (.getfield idx, 3)) (hq : pc + 3 = q) (h : J g d M Z q ls (.ref r :: st) σ) : J g d M Z pc ls (.ref a :: st) σ :=
  j_getV hf ho (v := .ref r) (by rw [ht, ← hr]; rfl) hdg hq h
theorem j_getS {a ci k idx : Nat} (hf : FS M.1.cls idx ci k) (ho : tC[a]? = some (3, ci)) (ht : (fT ci).getD k 0 = 2) (hdg : decode M.2.1 pc = .ok (.getfield idx, 3)) (hq : pc + 3 = q) (h : J g d M Z q ls (.ref (100 + (σ a k).toNatClampNeg) :: st) σ) : J g d M Z pc ls (.ref a :: st) σ :=
  j_getV hf ho (v := .ref (100 + (σ a k).toNatClampNeg)) (by rw [ht]; rfl) hdg hq h
theorem j_putV {a ci k idx : Nat} {x : Int32} {v : Value} {ty : FieldType} (hf : FS M.1.cls idx ci k) (ho : tC[a]? = some (3, ci)) (hv0 : vV g (up σ a k x) a k ((fT ci).getD k 0) = tr g v) (hty : ∃ q, clsL[ci]? = some q ∧ (q.2.1 k).2.2.2 = false ∧ parseFieldDescriptor (q.2.1 k).2.2.1 = some ty) (hn : narrow ty (tr g v) = tr g v) (hfit : fits ty (tr g v) = true) (hdg : decode M.2.1 pc = .ok (.putfield idx, 3)) (hq : pc + 3 = q) (h : J g d M Z q ls st (up σ a k x)) : J g d M Z pc ls (v :: .ref a :: st) σ := by
  subst hq
  intro p e R s m args below meth c H locs cells slots Q arr C hS hP hv K
  obtain ⟨hx, hb, hml, hown, hts, hA, hK, hSt, hSk, hR, hc⟩ := id C
  obtain ⟨⟨CC, TT, NN⟩, h1, h2, h3⟩ := hf
  obtain ⟨q', h1', hfin, hd⟩ := hty
  cases h1.symm.trans h1'
  have hk : k < (fT ci).length := by rw [fT_len ci _ h1]; exact h2
  have he : (cws g σ)[a]? = some (gad g a, .inr (ci, flds g σ a ci)) := by rw [cws_at g σ (tC_lt ho), cel_obj ho]
  obtain ⟨hnm, ty0, hty0⟩ := cls_ty ci _ h1
  have hl : k < (flds g σ a ci).length := by simpa [flds] using hk
  rcases h3 with h3 | ⟨host, h3⟩
  · refine va_put hx hb hts (cls_in ci _ h1) ty0 hty0 hnm hown hK.K hP (va_D_cws hA σ) hS a he h1 k h2 (hts _ h3) (fun _ z => z) hfin hd hn hfit hl hdg (fun H1 locs1 hP1 _ hS1 => ?_)
    rw [← hv0, cws_putO ho hk] at hP1
    exact h p e R s m args below meth c H1 locs1 cells slots Q arr C hS1 hP1 hv K
  · refine va_putN hx hb hts (cls_in ci _ h1) ty0 hty0 hnm hown hK.K hP (va_D_cws hA σ) hS a he h1 k h2 (hSk.nst h3) (fun _ z => z) hfin hd hn hfit hl hdg (fun H1 locs1 hP1 _ hS1 => ?_)
    rw [← hv0, cws_putO ho hk] at hP1
    exact h p e R s m args below meth c H1 locs1 cells slots Q arr C hS1 hP1 hv K
/-- the field is of this type and not final -/
def FP (ci k : Nat) (ty : FieldType) : Prop := ∃ q, clsL[ci]? = some q ∧ (q.2.1 k).2.2.2 = false ∧ parseFieldDescriptor (q.2.1 k).2.2.1 = some ty
theorem j_putI {a ci k idx : Nat} {x : Int32} (hf : FS M.1.cls idx ci k) (ho : tC[a]? = some (3, ci)) (ht : (fT ci).getD k 0 = 0) (hty : FP ci k .int) (hdg : decode M.2.1 pc = .ok (.putfield idx, 3)) (hq : pc + 3 = q) (h : J g d M Z q ls st (up σ a k x)) : J g d M Z pc ls (.int x :: .ref a :: st) σ :=
  j_putV hf ho (v := .int x) (by rw [ht]; simp [vV, up, tr]) hty rfl rfl hdg hq h
theorem j_putZ {a ci k idx : Nat} {x : Int32} (hf : FS M.1.cls idx ci k) (ho : tC[a]? = some (3, ci)) (ht : (fT ci).getD k 0 = 0) (hty : FP ci k .boolean) (hx : x = 0 ∨ x = 1) (hdg : decode M.2.1 pc = .ok (.putfield idx, 3)) (hq : pc + 3 = q) (h : J g d M Z q ls st (up σ a k x)) : J g d M Z pc ls (.int x :: .ref a :: st) σ :=
  j_putV hf ho (v := .int x) (by rw [ht]; simp [vV, up, tr]) hty (by rcases hx with rfl | rfl <;> rfl) (by rcases hx with rfl | rfl <;> rfl) hdg hq h
theorem j_putS {a ci k idx i : Nat} (hf : FS M.1.cls idx ci k) (ho : tC[a]? = some (3, ci)) (ht : (fT ci).getD k 0 = 2) (hi : i < 3) (hty : FP ci k (.object "java/lang/String")) (hdg : decode M.2.1 pc = .ok (.putfield idx, 3)) (hq : pc + 3 = q) (h : J g d M Z q ls st (up σ a k (nI i))) : J g d M Z pc ls (.ref (100 + i) :: .ref a :: st) σ :=
  j_putV hf ho (v := .ref (100 + i)) (by rw [ht]; simp [vV, up, tr]; rcases (show i = 0 ∨ i = 1 ∨ i = 2 by omega) with rfl | rfl | rfl <;> rfl) hty rfl rfl hdg hq h
theorem j_iald {a n : Nat} {i : Int32} (ha : tC[a]? = some (0, n)) (hin : vp_in i n) (hdg : decode M.2.1 pc = .ok (.iaload, 1)) (hq : pc + 1 = q) (h : J g d M Z q ls (.int (σ a i.toNatClampNeg) :: st) σ) : J g d M Z pc ls (.int i :: .ref a :: st) σ := by
  subst hq
  intro p e R s m args below meth c H locs cells slots Q arr C hS hP hv K
  obtain ⟨hx, hb, hml, hown, hts, hA, hK, hSt, hSk, hR, hc⟩ := id C
  exact va_iald hx hb (hK.K1 (aty_int ha)) hP a 0 (by rw [cws_at g σ (tC_lt ha), cel_int ha]) rfl hin hdg (h p e R s m args below meth c H locs cells slots Q arr C hS hP hv K)
theorem j_iast {a n : Nat} {i x : Int32} (ha : tC[a]? = some (0, n)) (hin : vp_in i n) (hdg : decode M.2.1 pc = .ok (.iastore, 1)) (hq : pc + 1 = q) (h : J g d M Z q ls st (up σ a i.toNatClampNeg x)) : J g d M Z pc ls (.int x :: .int i :: .ref a :: st) σ := by
  subst hq
  intro p e R s m args below meth c H locs cells slots Q arr C hS hP hv K
  obtain ⟨hx, hb, hml, hown, hts, hA, hK, hSt, hSk, hR, hc⟩ := id C
  refine va_iast hx hb (hK.K1 (aty_int ha)) hP (va_D_cws hA σ) hS a 0 (by rw [cws_at g σ (tC_lt ha), cel_int ha]) rfl hin hdg (fun H1 locs1 hP1 _ hS1 => ?_)
  rw [cws_putI ha] at hP1
  exact h p e R s m args below meth c H1 locs1 cells slots Q arr C hS1 hP1 hv K
theorem j_bald {a n : Nat} {i : Int32} (ha : tC[a]? = some (1, n)) (hin : vp_in i n) (hdg : decode M.2.1 pc = .ok (.baload, 1)) (hq : pc + 1 = q) (h : J g d M Z q ls (.int (σ a i.toNatClampNeg).toInt8.toInt32 :: st) σ) : J g d M Z pc ls (.int i :: .ref a :: st) σ := by
  subst hq
  intro p e R s m args below meth c H locs cells slots Q arr C hS hP hv K
  obtain ⟨hx, hb, hml, hown, hts, hA, hK, hSt, hSk, hR, hc⟩ := id C
  have he : (cws g σ)[a]? = some (gad g a, .inl (gcA g a, n, .inl (fun i => vp_nar .byte (σ a i)))) := by rw [cws_at g σ (tC_lt ha), cel_byt ha]
  exact va_bald hx hb (hK.K1 (aty_byt ha)) hP a 0 he rfl hin hdg (h p e R s m args below meth c H locs cells slots Q arr C hS hP hv K)
theorem j_bast {a n : Nat} {i x : Int32} (ha : tC[a]? = some (1, n)) (hin : vp_in i n) (hdg : decode M.2.1 pc = .ok (.bastore, 1)) (hq : pc + 1 = q) (h : J g d M Z q ls st (up σ a i.toNatClampNeg x)) : J g d M Z pc ls (.int x :: .int i :: .ref a :: st) σ := by
  subst hq
  intro p e R s m args below meth c H locs cells slots Q arr C hS hP hv K
  obtain ⟨hx, hb, hml, hown, hts, hA, hK, hSt, hSk, hR, hc⟩ := id C
  refine va_bast hx hb (hK.K1 (aty_byt ha)) hP (va_D_cws hA σ) hS a 0 (by rw [cws_at g σ (tC_lt ha), cel_byt ha]) rfl hin hdg (fun H1 locs1 hP1 _ hS1 => ?_)
  rw [cws_putB ha] at hP1
  exact h p e R s m args below meth c H1 locs1 cells slots Q arr C hS1 hP1 hv K
theorem j_aald {a n r : Nat} {i : Int32} (ha : tC[a]? = some (2, n)) (hin : vp_in i n) (hr : rf a i.toNatClampNeg = r) (hdg : decode M.2.1 pc = .ok (.aaload, 1)) (hq : pc + 1 = q) (h : J g d M Z q ls (.ref r :: st) σ) : J g d M Z pc ls (.int i :: .ref a :: st) σ := by
  subst hq
  subst hr
  intro p e R s m args below meth c H locs cells slots Q arr C hS hP hv K
  obtain ⟨hx, hb, hml, hown, hts, hA, hK, hSt, hSk, hR, hc⟩ := id C
  have he : (cws g σ)[a]? = some (gad g a, .inl (gcA g a, n, .inr (.inr (.inr (.inr (fun i => some (gad g (rf a i)))))))) := by rw [cws_at g σ (tC_lt ha), cel_ref ha]
  exact va_aldq hx hb (hK.K1 (aty_ref ha)) hP a 0 he rfl hin hdg (h p e R s m args below meth c H locs cells slots Q arr C hS hP hv K)
/-- an array of n places -/
def AL (a n : Nat) : Prop := tC[a]? = some (0, n) ∨ tC[a]? = some (1, n) ∨ tC[a]? = some (2, n)
theorem j_alen {a n : Nat} (ha : AL a n) (hdg : decode M.2.1 pc = .ok (.arraylength, 1)) (hq : pc + 1 = q) (h : J g d M Z q ls (.int (nI n) :: st) σ) : J g d M Z pc ls (.ref a :: st) σ := by
  subst hq
  intro p e R s m args below meth c H locs cells slots Q arr C hS hP hv K
  obtain ⟨hx, hb, hml, hown, hts, hA, hK, hSt, hSk, hR, hc⟩ := id C
  have kk := h p e R s m args below meth c H locs cells slots Q arr C hS hP hv K
  rcases ha with ha | ha | ha
  · exact va_alen (x := (n, .inl (σ a))) hx hb (hK.K1 (aty_int ha)) hP a 0 (by rw [cws_at g σ (tC_lt ha), cel_int ha]) rfl rfl hdg kk
  · exact va_alen (x := (n, .inl (fun i => vp_nar .byte (σ a i)))) hx hb (hK.K1 (aty_byt ha)) hP a 0 (by rw [cws_at g σ (tC_lt ha), cel_byt ha]) rfl rfl hdg kk
  · exact va_alen (x := (n, .inr (.inr (.inr (.inr (fun i => some (gad g (rf a i)))))))) hx hb (hK.K1 (aty_ref ha)) hP a 0 (by rw [cws_at g σ (tC_lt ha), cel_ref ha]) rfl rfl hdg kk
-- statics and String constants
theorem j_gets_kab {idx : Nat} (hw : Cond.fieldLink M.1.cls idx "ThirstPay" "KIND_ABOVE" "[I" ∈ lw_g) (hdg : decode M.2.1 pc = .ok (.getstatic idx, 3)) (hq : pc + 3 = q) (h : J g d M Z q ls (.ref 120 :: st) σ) : J g d M Z pc ls st σ := by
  subst hq
  intro p e R s m args below meth c H locs cells slots Q arr C hS hP hv K
  obtain ⟨hx, hb, hml, hown, hts, hA, hK, hSt, hSk, hR, hc⟩ := id C
  exact va_gets hx hb hSt.2.2.1 hS hown (hts _ hw) (fun _ z => z) hdg (h p e R s m args below meth c H locs cells slots Q arr C hS hP hv K)
theorem j_gets_bdy {idx : Nat} (hw : Cond.fieldLink M.1.cls idx "ThirstPay$Voices" "BODIES" "[I" ∈ lw_g) (hdg : decode M.2.1 pc = .ok (.getstatic idx, 3)) (hq : pc + 3 = q) (h : J g d M Z q ls (.ref 121 :: st) σ) : J g d M Z pc ls st σ := by
  subst hq
  intro p e R s m args below meth c H locs cells slots Q arr C hS hP hv K
  obtain ⟨hx, hb, hml, hown, hts, hA, hK, hSt, hSk, hR, hc⟩ := id C
  exact va_gets hx hb hSt.2.2.2.1 hS hown (hts _ hw) (fun _ z => z) hdg (h p e R s m args below meth c H locs cells slots Q arr C hS hP hv K)
theorem j_gets_cmp {idx : Nat} (hw : Cond.fieldLink M.1.cls idx "java/lang/String" "COMPACT_STRINGS" "Z" ∈ lw_g) (hdg : decode M.2.1 pc = .ok (.getstatic idx, 3)) (hq : pc + 3 = q) (h : J g d M Z q ls (.int 1 :: st) σ) : J g d M Z pc ls st σ := by
  subst hq
  intro p e R s m args below meth c H locs cells slots Q arr C hS hP hv K
  obtain ⟨hx, hb, hml, hown, hts, hA, hK, hSt, hSk, hR, hc⟩ := id C
  exact va_gets hx hb hSt.2.1 hS hown (hts _ hw) (fun _ z => z) hdg (h p e R s m args below meth c H locs cells slots Q arr C hS hP hv K)
theorem j_sald {a : Nat} {i : Int32} (ha : a < 3) (hin : vp_in i (stL g a)) (hdg : decode M.2.1 pc = .ok (.iaload, 1)) (hq : pc + 1 = q) (h : J g d M Z q ls (.int (stF g a i.toNatClampNeg) :: st) σ) : J g d M Z pc ls (.int i :: .ref (120 + a) :: st) σ := by
  subst hq
  intro p e R s m args below meth c H locs cells slots Q arr C hS hP hv K
  obtain ⟨hx, hb, hml, hown, hts, hA, hK, hSt, hSk, hR, hc⟩ := id C
  exact va_ti hx hb (hSt.2.2.2.2 a ha) hS hin rfl hdg (h p e R s m args below meth c H locs cells slots Q arr C hS hP hv K)
theorem j_slen {a : Nat} (ha : a < 3) (hdg : decode M.2.1 pc = .ok (.arraylength, 1)) (hq : pc + 1 = q) (h : J g d M Z q ls (.int (nI (stL g a)) :: st) σ) : J g d M Z pc ls (.ref (120 + a) :: st) σ := by
  subst hq
  intro p e R s m args below meth c H locs cells slots Q arr C hS hP hv K
  obtain ⟨hx, hb, hml, hown, hts, hA, hK, hSt, hSk, hR, hc⟩ := id C
  exact va_tlen hx hb (hSt.2.2.2.2 a ha) hS rfl hdg (h p e R s m args below meth c H locs cells slots Q arr C hS hP hv K)
theorem j_str_val {i idx : Nat} (hi : i < 3) (hw : Cond.fieldLink M.1.cls idx "java/lang/String" "value" "[B" ∈ lw_g) (hdg : decode M.2.1 pc = .ok (.getfield idx, 3)) (hq : pc + 3 = q) (h : J g d M Z q ls (.ref (110 + i) :: st) σ) : J g d M Z pc ls (.ref (100 + i) :: st) σ := by
  subst hq
  intro p e R s m args below meth c H locs cells slots Q arr C hS hP hv K
  obtain ⟨hx, hb, hml, hown, hts, hA, hK, hSt, hSk, hR, hc⟩ := id C
  exact vk_getf hx hb (hSt.1.1 i hi).2.2.1 hS hown (hts _ hw) (fun _ z => z) hdg (h p e R s m args below meth c H locs cells slots Q arr C hS hP hv K)
theorem j_str_cod {i idx : Nat} (hi : i < 3) (hw : Cond.fieldLink M.1.cls idx "java/lang/String" "coder" "B" ∈ lw_g) (hdg : decode M.2.1 pc = .ok (.getfield idx, 3)) (hq : pc + 3 = q) (h : J g d M Z q ls (.int 0 :: st) σ) : J g d M Z pc ls (.ref (100 + i) :: st) σ := by
  subst hq
  intro p e R s m args below meth c H locs cells slots Q arr C hS hP hv K
  obtain ⟨hx, hb, hml, hown, hts, hA, hK, hSt, hSk, hR, hc⟩ := id C
  exact vk_getf hx hb (hSt.1.1 i hi).2.1 hS hown (hts _ hw) (fun _ z => z) hdg (h p e R s m args below meth c H locs cells slots Q arr C hS hP hv K)
theorem j_str_ald {i : Nat} {j : Int32} (hi : i < 3) (hin : vp_in j (sLen.getD i 0)) (hdg : decode M.2.1 pc = .ok (.baload, 1)) (hq : pc + 1 = q) (h : J g d M Z q ls (.int ((sByt.getD i []).getD j.toNatClampNeg 0) :: st) σ) : J g d M Z pc ls (.int j :: .ref (110 + i) :: st) σ := by
  subst hq
  intro p e R s m args below meth c H locs cells slots Q arr C hS hP hv K
  obtain ⟨hx, hb, hml, hown, hts, hA, hK, hSt, hSk, hR, hc⟩ := id C
  exact va_tb hx hb (hSt.1.1 i hi).2.2.2 hS hin rfl hdg (h p e R s m args below meth c H locs cells slots Q arr C hS hP hv K)
theorem j_str_len {i : Nat} (hi : i < 3) (hdg : decode M.2.1 pc = .ok (.arraylength, 1)) (hq : pc + 1 = q) (h : J g d M Z q ls (.int (nI (sLen.getD i 0)) :: st) σ) : J g d M Z pc ls (.ref (110 + i) :: st) σ := by
  subst hq
  intro p e R s m args below meth c H locs cells slots Q arr C hS hP hv K
  obtain ⟨hx, hb, hml, hown, hts, hA, hK, hSt, hSk, hR, hc⟩ := id C
  exact va_tlen hx hb (hSt.1.1 i hi).2.2.2 hS rfl hdg (h p e R s m args below meth c H locs cells slots Q arr C hS hP hv K)
end JH
