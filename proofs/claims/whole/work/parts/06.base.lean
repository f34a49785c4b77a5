-- THE PURE PICTURE: every cell of the two systems by a small number; its ints in one function of (cell, place)
abbrev S_ : Type := Nat → Nat → Int32
def up (σ : S_) (a k : Nat) (v : Int32) : S_ := fun b j => if b = a then (if j = k then v else σ b j) else σ b j
/-- a method: name, bytes, locals, answer -/
abbrev MM : Type := MethodName × ByteArray × Nat × Option FieldType
/-- what is the same in a whole run: launch, classes' numbers, arrays' classes, addresses, the first new address, the script -/
abbrev GT : Type := Launch × va_G × (Nat → ClassId) × (Nat → Nat) × Nat × Nat × (Nat → Int32)
abbrev gl (g : GT) : Launch := g.1
abbrev gD (g : GT) : va_G := g.2.1
abbrev gcA (g : GT) : Nat → ClassId := g.2.2.1
abbrev gad (g : GT) : Nat → Nat := g.2.2.2.1
abbrev gb (g : GT) : Nat := g.2.2.2.2.1
abbrev gL (g : GT) : Nat := g.2.2.2.2.2.1
abbrev gx (g : GT) : Nat → Int32 := g.2.2.2.2.2.2
abbrev gA (g : GT) : Nat → Prop := fun q => gb g ≤ q
def clsL : List vw_C := [(RX0, TX0, 6), (RX1, TX1, 5), (RX2, TX2, 3), (RX3, TX3, 4), (RX4, TX4, 6), (RX5, TX5, 6), (RX6, TX6, 14), (RX7, TX7, 8), (RX8, TX8, 25)]
/-- a class's fields: 0 an int, 1 a cell (always the same), 2 a String constant -/
def fT (ci : Nat) : List Nat := ([[0,0,0,0,0,0], [1,1,0,0,2], [1,0,0], [1,1,1,0], [1,1,1,1,1,0], [1,0,0,0,0,0], [1,0,1,1,0,1,0,0,0,1,0,1,1,0], [1,1,1,1,1,1,1,0], [1,1,1,0,1,0,0,0,0,1,1,1,1,1,1,1,0,0,1,0,0,1,1,1,1]] : List (List Nat)).getD ci []
/-- the cells: (0, n) ints, (1, n) bytes, (2, n) cells of a class, (3, c) an object of class c -/
def tC : List (Nat × Nat) := [
  (3,7), (2,4), (0,7), (3,4), (0,7), (0,4), (0,7), (0,7),
  (3,6), (2,7), (0,4), (0,4), (0,3), (1,60), (2,2), (0,24), (3,0), (3,0), (3,0), (3,0), (3,0), (3,0), (3,0), (3,3), (0,60), (0,60), (0,60), (3,3), (0,60), (0,60), (0,60),
  (3,6), (2,7), (0,4), (0,4), (0,3), (1,60), (2,2), (0,24), (3,0), (3,0), (3,0), (3,0), (3,0), (3,0), (3,0), (3,3), (0,60), (0,60), (0,60), (3,3), (0,60), (0,60), (0,60),
  (3,1), (0,60), (3,3), (0,60), (0,60), (0,60), (3,5), (0,30), (3,2), (0,24), (3,2), (0,24), (3,2), (0,24), (3,2), (0,24),
  (3,8), (0,394), (0,394), (0,60), (0,7), (0,124), (0,128), (0,64), (0,7), (0,7), (0,7), (0,4), (0,30), (0,4), (0,4), (0,96), (0,24)]
/-- which cell a place of a cell holds -/
def rf (a k : Nat) : Nat := (match a with
  | 0 => [8, 31, 3, 54, 60, 1, 2]
  | 1 => [62, 64, 66, 68]
  | 3 => [8, 4, 5, 6, 7]
  | 8 => [9, 0, 10, 11, 0, 12, 0, 0, 0, 13, 0, 14, 15]
  | 9 => [16, 17, 18, 19, 20, 21, 22]
  | 14 => [23, 27]
  | 23 => [24, 25, 26]
  | 27 => [28, 29, 30]
  | 31 => [32, 0, 33, 34, 0, 35, 0, 0, 0, 36, 0, 37, 38]
  | 32 => [39, 40, 41, 42, 43, 44, 45]
  | 37 => [46, 50]
  | 46 => [47, 48, 49]
  | 50 => [51, 52, 53]
  | 54 => [56, 55]
  | 56 => [57, 58, 59]
  | 60 => [61]
  | 62 => [63]
  | 64 => [65]
  | 66 => [67]
  | 68 => [69]
  | 70 => [71, 72, 73, 0, 74, 0, 0, 0, 0, 75, 76, 77, 78, 79, 80, 81, 0, 0, 82, 0, 0, 83, 84, 85, 86]
  | _ => ([] : List Nat)).getD k 0
/-- the class of a row of cells -/
def rcl (a : Nat) : String := if a = 1 then RX2 else if a = 9 ∨ a = 32 then RX0 else RX3
def aty (a : Nat) : Option FieldType := match tC[a]? with
  | some (0, _) => some .int
  | some (1, _) => some .byte
  | some (2, _) => some (.object (rcl a))
  | _ => none
def vV (g : GT) (σ : S_) (a k t : Nat) : Value := if t = 0 then .int (σ a k) else if t = 1 then .ref (gad g (rf a k)) else .ref (gad g (100 + (σ a k).toNatClampNeg))
def cel (g : GT) (σ : S_) (a : Nat) : va_E := match tC[a]? with
  | some (0, n) => .inl (gcA g a, n, .inl (σ a))
  | some (1, n) => .inl (gcA g a, n, .inl (fun i => vp_nar .byte (σ a i)))
  | some (2, n) => .inl (gcA g a, n, .inr (.inr (.inr (.inr (fun i => some (gad g (rf a i)))))))
  | some (_, c) => .inr (c, (List.range (fT c).length).map (fun k => vV g σ a k ((fT c).getD k 0)))
  | none => .inr (0, [])
def cws (g : GT) (σ : S_) : va_W := (List.range 87).map (fun k => (gad g k, cel g σ k))
def tr (g : GT) : Value → Value
  | .ref k => .ref (gad g k)
  | v => v
def stL (g : GT) (i : Nat) : Nat := if i = 0 then 7 else if i = 1 then 28 else gL g
def kab : List Int32 := [-1, 0, 0, 0, 1, 2, 0]
def bdy : List Int32 := [10, 11, 12, 13, 20, 0, 0, 21, 0, 30, 0, 0, 0, 0, 40, 0, 50, 0, 51, 0, 0, 60, 0, 0, 70, 71, 0, 0]
def stF (g : GT) (i : Nat) : Nat → Int32 := if i = 0 then (fun j => kab.getD j 0) else if i = 1 then (fun j => bdy.getD j 0) else gx g
def sLen : List Nat := [0, 3, 3]
def sByt : List (List Int32) := [[], [103, 100, 104], [112, 100, 115]]
def AD (g : GT) : Prop := (∀ i j, i < 87 → j < 87 → gad g i = gad g j → i = j) ∧ ∀ k, k < 87 → gb g ≤ gad g k
def KN (g : GT) (U : State) : Prop := (∀ (c : Nat) (q : vw_C), clsL[c]? = some q → u_Kn U q.1 q.2.1 q.2.2 ((gD g).1 c) ((gD g).2 c)) ∧ ∀ (a : Nat) (ty : FieldType), aty a = some ty → ArrOfT U (gcA g a) ty ∧ va_RA U (gcA g a) ty
def STh (g : GT) (U : State) (H : Heap) : Prop :=
  vk_S 3 sLen sByt (fun i => gad g (100 + i)) (fun i => gad g (110 + i)) (gA g) U H ∧ va_Z "java/lang/String" "COMPACT_STRINGS" "Z" (.int 1) (gA g) U H ∧ va_Z "ThirstPay" "KIND_ABOVE" "[I" (.ref (gad g 120)) (gA g) U H ∧ va_Z "ThirstPay$Voices" "BODIES" "[I" (.ref (gad g 121)) (gA g) U H ∧ ∀ i, i < 3 → va_T .int (gad g (120 + i)) (stL g i) (fun j => .int (stF g i j)) (gA g) U H
def isNst : Cond → Bool
  | .fieldLinkNest .. => true
  | .methodLinkNest .. => true
  | _ => false
/-- the words between nest mates -/
def lw_n : List Cond := lw_tbl.filter isNst
def STk (g : GT) (U : State) : Prop := vk_R RX7 311 "gdh" (gad g 101) U ∧ vk_R RX7 313 "pds" (gad g 102) U ∧ ∀ w ∈ lw_n, va_Nw w U
def RU (g : GT) (σ : S_) (U : State) : Prop := AD g ∧ va_P (gD g) clsL (cws g σ) U.heap ∧ KN g U ∧ STh g U U.heap ∧ STk g U
theorem KN.moved {g : GT} {u U : State} (hvm : u.vm.Alike U.vm) (h : KN g u) : KN g U := ⟨fun c q hq => u_Kn_moved hvm (h.1 c q hq), fun a ty ha => ⟨arrOfT_moved hvm (h.2 a ty ha).1, (h.2 a ty ha).2.moved hvm⟩⟩
theorem STh.moved {g : GT} {u U : State} {H : Heap} (hvm : u.vm.Alike U.vm) (h : STh g u H) : STh g U H := ⟨h.1.moved hvm, h.2.1.moved hvm, h.2.2.1.moved hvm, h.2.2.2.1.moved hvm, fun i hi => (h.2.2.2.2 i hi).moved hvm⟩
theorem STh.kept {g : GT} {U : State} {H H1 : Heap} (h : STh g U H) (hq : ∀ a : Nat, a < H.size → ¬ gA g a → H1[a]? = H[a]?) : STh g U H1 := ⟨h.1.kept hq, h.2.1.kept hq, h.2.2.1.kept hq, h.2.2.2.1.kept hq, fun i hi => (h.2.2.2.2 i hi).kept hq⟩
theorem lw_n_warm {s U : State} (hW : s.WarmedH U.vm) {w : Cond} (hw : isNst w = true) (h : va_Nw w s) : va_Nw w U := by
  cases w <;> first | exact h.warmF hW | exact h.warmM hW | exact absurd hw (by simp [isNst])
theorem lw_n_tab {w : Cond} (hw : isNst w = true) : w.onTables = true := by
  cases w <;> first | rfl | exact absurd hw (by simp [isNst])
theorem STk.warm {g : GT} {s U : State} (hW : s.WarmedH U.vm) (h : STk g s) : STk g U := ⟨h.1.warm hW, h.2.1.warm hW, fun w hw => lw_n_warm hW (List.mem_filter.mp hw).2 (h.2.2 w hw)⟩
theorem STk.same {g : GT} {u U : State} (hv : U.vm = u.vm) (h : STk g u) : STk g U := ⟨h.1.same hv, h.2.1.same hv, fun w hw => (h.2.2 w hw).same (lw_n_tab (List.mem_filter.mp hw).2) hv.symm⟩
theorem STk.nst {g : GT} {s : State} {args : Array Value} (h : STk g s) {w : Cond} (hw : w ∈ lw_n) : w.before args s = true := (h.2.2 w hw).use (lw_n_tab (List.mem_filter.mp hw).2)
-- the world's cells by their numbers
theorem cws_at (g : GT) (σ : S_) {k : Nat} (hk : k < 87) : (cws g σ)[k]? = some (gad g k, cel g σ k) := by
  unfold cws
  rw [List.getElem?_map, List.getElem?_range hk]
  rfl
theorem cws_len (g : GT) (σ : S_) : (cws g σ).length = 87 := by simp [cws]
theorem cws_set (g : GT) {σ τ : S_} {k : Nat} (hk : k < 87) (h : ∀ j, j ≠ k → cel g σ j = cel g τ j) : (cws g σ).set k (gad g k, cel g τ k) = cws g τ := by
  apply List.ext_getElem?
  intro j
  by_cases hj : j = k
  · subst hj
    rw [List.getElem?_set_self (by rw [cws_len]; exact hk), cws_at g τ hk]
  · rw [List.getElem?_set_ne (Ne.symm hj)]
    by_cases hj2 : j < 87
    · rw [cws_at g σ hj2, cws_at g τ hj2, h j hj]
    · rw [List.getElem?_eq_none (by rw [cws_len]; omega), List.getElem?_eq_none (by rw [cws_len]; omega)]
theorem cel_up_ne (g : GT) (σ : S_) {a k : Nat} {v : Int32} {j : Nat} (h : j ≠ a) : cel g σ j = cel g (up σ a k v) j := by
  have e : (up σ a k v) j = σ j := by funext i; simp [up, h]
  unfold cel vV
  rw [e]
theorem va_D_cws {g : GT} (h : AD g) (σ : S_) : va_D (gA g) (cws g σ) := by
  refine ⟨fun i j p q hi hj hpq => ?_, fun k q hk => ?_⟩
  · have li := (List.getElem?_eq_some_iff.mp hi).1
    have lj := (List.getElem?_eq_some_iff.mp hj).1
    rw [cws_len] at li lj
    rw [cws_at g σ li] at hi
    rw [cws_at g σ lj] at hj
    cases hi
    cases hj
    exact h.1 i j li lj hpq
  · have lk := (List.getElem?_eq_some_iff.mp hk).1
    rw [cws_len] at lk
    rw [cws_at g σ lk] at hk
    cases hk
    exact h.2 k lk
theorem KN.K {g : GT} {s : State} (h : KN g s) : va_K (gD g) clsL [] s := ⟨h.1, fun k q hk => by simp at hk⟩
theorem KN.K1 {g : GT} {s : State} (h : KN g s) {a : Nat} {ty : FieldType} (ha : aty a = some ty) : va_K (gD g) clsL [(gcA g a, ty)] s := by
  refine ⟨h.1, fun k q hk => ?_⟩
  match k, hk with
  | 0, hk => cases hk; exact h.2 a ty ha
  | k + 1, hk => simp at hk
theorem KN.K2 {g : GT} {s : State} (h : KN g s) {a b : Nat} {ty tz : FieldType} (ha : aty a = some ty) (hb : aty b = some tz) : va_K (gD g) clsL [(gcA g a, ty), (gcA g b, tz)] s := by
  refine ⟨h.1, fun k q hk => ?_⟩
  match k, hk with
  | 0, hk => cases hk; exact h.2 a ty ha
  | 1, hk => cases hk; exact h.2 b tz hb
  | k + 2, hk => simp at hk
/-- locals: the values by their places; .null stands for none -/
def lvl (g : GT) : Nat → List Value → List (Nat × Value)
  | _, [] => []
  | i, .null :: t => lvl g (i + 1) t
  | i, v :: t => (i, tr g v) :: lvl g (i + 1) t
def Rm (d : Nat) : Room := { frames := d, cells := 0, slots := 0, locals := 40 * d }
def QM (g : GT) (ret : Option FieldType) (Z : Value → S_ → Prop) : Array Value → State → Outcome → State → Prop := match ret with
  | none => va_Qv (fun u => Z .null u) (fun u t => va_P (gD g) clsL (cws g u) t.heap) (gA g)
  | some (.object _) => va_Qr (fun u : S_ × Nat => Z (.ref u.2) u.1) (fun u a t => a = gad g u.2 ∧ va_P (gD g) clsL (cws g u.1) t.heap) (gA g)
  | some _ => va_Qi (fun r u => Z (.int r) u) (fun u t => va_P (gD g) clsL (cws g u) t.heap) (gA g)
/-- THE CONTRACT: from the picture σ, with these arguments, the method ends; answer and picture behind it are in Z -/
def CT (g : GT) (d : Nat) (M : MM) (as : List Value) (σ : S_) (Z : Value → S_ → Prop) : Prop :=
  Met (gl g) M.1 (Cond.code M.1 M.2.1 M.2.2.1 M.2.2.2 :: lw_g) (Rm d) (va_Pc (as.map (tr g)) (RU g σ)) (QM g M.2.2.2 Z) 0 0 (gA g)
def IR (M : MM) (pc : Nat) (v : Value) : Prop := match v with
  | .int x => decode M.2.1 pc = .ok (.ireturn, 1) ∧ ∃ ty, M.2.2.2 = some ty ∧ narrow ty (.int x) = .int x ∧ ∀ n, ty ≠ .object n
  | .null => decode M.2.1 pc = .ok (.return_, 1) ∧ M.2.2.2 = none
  | .ref _ => decode M.2.1 pc = .ok (.areturn, 1) ∧ ∃ n, M.2.2.2 = some (.object n)
  | _ => False
def rv (g : GT) (v : Value) : List Value := match v with
  | .null => []
  | v => [tr g v]
/-- a method's frame: what is known of the machine -/
def CX (g : GT) (d : Nat) (M : MM) (p : Program) (R : Room) (s : State) (m : MethodId) (args : Array Value) (c : Code) (cells slots : Nat) : Prop :=
  p.tables.exec = Jvm.exec ∧ c.code = M.2.1 ∧ c.maxLocals = M.2.2.1 ∧ s.vm.findClass M.1.cls = some m.cls ∧ (∀ w ∈ lw_g, w.before args s = true) ∧ AD g ∧ KN g s ∧ STh g s s.heap ∧ STk g s ∧ (d ≤ R.frames ∧ 40 * d ≤ R.locals) ∧ (cells ≤ R.cells ∧ slots ≤ R.slots)
/-- from this place of a method, with these locals, this stack and this picture, the method comes to its end, with Z -/
def J (g : GT) (d : Nat) (M : MM) (Z : Value → S_ → Prop) (pc : Nat) (ls st : List Value) (σ : S_) : Prop :=
  ∀ (p : Program) (e : Env) (R : Room) (s : State) (m : MethodId) (args : Array Value) (below : List Frame) (meth : Method) (c : Code) (H : Heap) (locs : List Loc) (cells slots : Nat) (Q : State → Prop) (arr : Array Slot),
    CX g d M p R s m args c cells slots → va_S (gA g) s.heap H locs → va_P (gD g) clsL (cws g σ) H → lv_has arr M.2.2.1 (lvl g 0 ls) →
    (∀ (pc' : Nat) (arr' : Array Slot) (v : Value) (H' : Heap) (locs' : List Loc) (τ : S_), Z v τ → IR M pc' v → va_S (gA g) s.heap H' locs' → va_P (gD g) clsL (cws g τ) H' → W p (gl g) e R s m args below meth c H' locs' cells slots Q (F0 m pc' arr' (rv g v))) →
    W p (gl g) e R s m args below meth c H locs cells slots Q (F0 m pc arr (st.map (tr g)))
theorem J.mono {g : GT} {d : Nat} {M : MM} {Z Z' : Value → S_ → Prop} {pc : Nat} {ls st : List Value} {σ : S_} (h : J g d M Z pc ls st σ) (hz : ∀ v τ, Z v τ → Z' v τ) : J g d M Z' pc ls st σ :=
  fun p e R s m args below meth c H locs cells slots Q arr C hS hP hl K => h p e R s m args below meth c H locs cells slots Q arr C hS hP hl (fun pc' arr' v H' locs' τ z => K pc' arr' v H' locs' τ (hz v τ z))
theorem lvl_mem {g : GT} {v : Value} (hv : v ≠ .null) : ∀ (ls : List Value) (i o : Nat), ls[i]? = some v → (i + o, tr g v) ∈ lvl g o ls := by
  intro ls
  induction ls with
  | nil => intro i o h; simp at h
  | cons w t ih =>
    intro i o h
    cases i with
    | zero =>
      simp at h
      subst h
      cases w <;> first | exact absurd rfl hv | simp [lvl]
    | succ i =>
      have h2 := ih i (o + 1) (by simpa using h)
      rw [show i + (o + 1) = i + 1 + o by omega] at h2
      cases w <;> simp [lvl, h2]
theorem lvl_at {g : GT} {arr : Array Slot} {nL : Nat} {ls : List Value} (h : lv_has arr nL (lvl g 0 ls)) {i : Nat} {v : Value} (hv : v ≠ .null) (hi : ls[i]? = some v) : arr[i]? = some (.val (tr g v)) := by
  have := h.2.2 _ (lvl_mem (g := g) hv ls i 0 hi)
  simpa using this
