-- THE MAKING OF THE CELLS: a judgement over the list of cells that there are
def gid (g : GT) : GT := (g.1, g.2.1, g.2.2.1, fun k => k, g.2.2.2.2)
def EX (g : GT) (U : State) : Prop := va_AO "ThirstPay$Farm" U ∧ va_AO "ThirstPay$Text" U ∧ va_AO "ThirstPay$Sheet" U ∧ vk_R RX1 22 "" (gad g 100) U
theorem EX.warm {g : GT} {s U : State} (hW : s.WarmedH U.vm) (h : EX g s) : EX g U := ⟨h.1.moved hW.alike, h.2.1.moved hW.alike, h.2.2.1.moved hW.alike, h.2.2.2.warm hW⟩
theorem EX.same {g : GT} {u U : State} (hv : U.vm = u.vm) (h : EX g u) : EX g U := by
  have ha : u.vm.Alike U.vm := by rw [hv]; exact Vm.Alike.refl _
  exact ⟨h.1.moved ha, h.2.1.moved ha, h.2.2.1.moved ha, h.2.2.2.same hv⟩
def CN (g : GT) (d : Nat) (M : MM) (nc ns : Nat) (p : Program) (R : Room) (s : State) (m : MethodId) (args : Array Value) (meth : Method) (c : Code) (cells slots : Nat) : Prop :=
  p.tables.exec = Jvm.exec ∧ c.code = M.2.1 ∧ c.maxLocals = M.2.2.1 ∧ s.vm.findClass M.1.cls = some m.cls ∧ (∀ w ∈ lw_g, w.before args s = true) ∧ KN g s ∧ STh g s s.heap ∧ STk g s ∧ EX g s ∧ (d ≤ R.frames ∧ 40 * d ≤ R.locals) ∧ (cells + nc ≤ R.cells ∧ slots + ns ≤ R.slots) ∧ (M.1.name = "<init>" → meth.name = "<init>") ∧ gb g ≤ s.heap.size
def NJ (g : GT) (d : Nat) (M : MM) (pE : Nat) (Z : List Value → va_W → Prop) (nc ns pc : Nat) (ls st : List Value) (ws : va_W) : Prop :=
  ∀ (p : Program) (e : Env) (R : Room) (s : State) (m : MethodId) (args : Array Value) (below : List Frame) (meth : Method) (c : Code) (H : Heap) (locs : List Loc) (cells slots : Nat) (Q : State → Prop) (arr : Array Slot),
    CN g d M nc ns p R s m args meth c cells slots → va_S (gA g) s.heap H locs → va_P (gD g) clsL ws H → va_D (gA g) ws → lv_has arr M.2.2.1 (lvl (gid g) 0 ls) →
    (∀ (arr' : Array Slot) (ls' : List Value) (H' : Heap) (locs' : List Loc) (ws' : va_W), Z ls' ws' → lv_has arr' M.2.2.1 (lvl (gid g) 0 ls') → va_S (gA g) s.heap H' locs' → va_P (gD g) clsL ws' H' → va_D (gA g) ws' → W p (gl g) e R s m args below meth c H' locs' (cells + nc) (slots + ns) Q (F0 m pE arr' [])) →
    W p (gl g) e R s m args below meth c H locs cells slots Q (F0 m pc arr st)
theorem CN.less {g : GT} {d : Nat} {M : MM} {nc ns a b : Nat} {p : Program} {R : Room} {s : State} {m : MethodId} {args : Array Value} {meth : Method} {c : Code} {cells slots : Nat} (h : CN g d M (nc + a) (ns + b) p R s m args meth c cells slots) : CN g d M nc ns p R s m args meth c (cells + a) (slots + b) := by
  obtain ⟨h1, h2, h3, h4, h5, h6, h7, h8, h9, h10, h11, h12, h13⟩ := h
  exact ⟨h1, h2, h3, h4, h5, h6, h7, h8, h9, h10, ⟨by omega, by omega⟩, h12, h13⟩
theorem CN.K {g : GT} {d : Nat} {M : MM} {nc ns : Nat} {p : Program} {R : Room} {s : State} {m : MethodId} {args : Array Value} {meth : Method} {c : Code} {cells slots : Nat} (h : CN g d M nc ns p R s m args meth c cells slots) : va_K (gD g) clsL [] s := h.2.2.2.2.2.1.K
theorem CN.A {g : GT} {d : Nat} {M : MM} {nc ns : Nat} {p : Program} {R : Room} {s : State} {m : MethodId} {args : Array Value} {meth : Method} {c : Code} {cells slots : Nat} (h : CN g d M nc ns p R s m args meth c cells slots) : ∀ q : Nat, s.heap.size ≤ q → gA g q := fun q hq => Nat.le_trans h.2.2.2.2.2.2.2.2.2.2.2.2 hq
theorem ap_get {ws0 L : va_W} {k : Nat} : (ws0 ++ L)[ws0.length + k]? = L[k]? := by
  rw [List.getElem?_append_right (by omega)]
  congr 1
  omega
theorem ap_set {ws0 L : va_W} {k : Nat} {x : Nat × va_E} : (ws0 ++ L).set (ws0.length + k) x = ws0 ++ L.set k x := by
  rw [List.set_append_right _ _ (by omega)]
  congr 2
  omega
theorem KN.ra {g : GT} {s : State} (h : KN g s) {a : Nat} {ty : FieldType} (ha : aty a = some ty) {cA : ClassId} (hr : va_RA s cA ty) : cA = gcA g a := by
  have h2 := (h.2 a ty ha).2
  cases ty with
  | object C =>
    obtain ⟨kA, comp, x1, x2, x3, x4⟩ := hr
    obtain ⟨kB, comp', y1, y2, y3, y4⟩ := h2
    exact Option.some.inj (x4.symm.trans y4)
  | _ => exact Option.some.inj ((show s.vm.findClass _ = some cA from hr).symm.trans (show s.vm.findClass _ = some (gcA g a) from h2))
section NR
variable {g : GT} {d : Nat} {M : MM} {pE : Nat} {Z : List Value → va_W → Prop} {nc ns pc q : Nat} {ls st : List Value} {ws ws0 L : va_W}
theorem n_end (h : Z ls ws) : NJ g d M pc Z 0 0 pc ls [] ws := by
  intro p e R s m args below meth c H locs cells slots Q arr C hS hP hD hv K
  exact K arr ls H locs ws h hv hS hP hD
theorem n_aload_n {k : Fin 4} {x : Nat} (hdg : decode M.2.1 pc = .ok (.aload_n k, 1)) (hq : pc + 1 = q) (hl : ls[(k : Nat)]? = some (.ref x)) (h : NJ g d M pE Z nc ns q ls (.ref x :: st) ws) : NJ g d M pE Z nc ns pc ls st ws := by
  subst hq
  intro p e R s m args below meth c H locs cells slots Q arr C hS hP hD hv K
  exact lv_aload_n C.1 C.2.1 hdg rfl (lvl_at hv (by simp) hl) (h p e R s m args below meth c H locs cells slots Q arr C hS hP hD hv K)
theorem n_iload_n {k : Fin 4} {x : Int32} (hdg : decode M.2.1 pc = .ok (.iload_n k, 1)) (hq : pc + 1 = q) (hl : ls[(k : Nat)]? = some (.int x)) (h : NJ g d M pE Z nc ns q ls (.int x :: st) ws) : NJ g d M pE Z nc ns pc ls st ws := by
  subst hq
  intro p e R s m args below meth c H locs cells slots Q arr C hS hP hD hv K
  exact lv_iload_n C.1 C.2.1 hdg rfl (lvl_at hv (by simp) hl) (h p e R s m args below meth c H locs cells slots Q arr C hS hP hD hv K)
theorem n_istore_n {k : Fin 4} {x : Int32} (hdg : decode M.2.1 pc = .ok (.istore_n k, 1)) (hq : pc + 1 = q) (hn : (k : Nat) < M.2.2.1) (hL : nlg ls k) (h : NJ g d M pE Z nc ns q (ls.set k (.int x)) st ws) : NJ g d M pE Z nc ns pc ls (.int x :: st) ws := by
  subst hq
  intro p e R s m args below meth c H locs cells slots Q arr C hS hP hD hv K
  exact lv_istore_n C.1 C.2.1 hdg rfl hv hn rfl (fun arr' hv' => h p e R s m args below meth c H locs cells slots Q arr' C hS hP hD (lvl_store hL hv') K)
theorem n_astore_n {k : Fin 4} {x : Nat} (hdg : decode M.2.1 pc = .ok (.astore_n k, 1)) (hq : pc + 1 = q) (hn : (k : Nat) < M.2.2.1) (hL : nlg ls k) (h : NJ g d M pE Z nc ns q (ls.set k (.ref x)) st ws) : NJ g d M pE Z nc ns pc ls (.ref x :: st) ws := by
  subst hq
  intro p e R s m args below meth c H locs cells slots Q arr C hS hP hD hv K
  exact lv_astore_n C.1 C.2.1 hdg rfl hv hn rfl (fun arr' hv' => h p e R s m args below meth c H locs cells slots Q arr' C hS hP hD (lvl_store (g := gid g) (x := .ref x) hL hv') K)
theorem n_iinc {i : Nat} {n : Int} {x : Int32} (hdg : decode M.2.1 pc = .ok (.iinc i n, 3)) (hq : pc + 3 = q) (hl : ls[i]? = some (.int x)) (hn : i < M.2.2.1) (hL : nlg ls i) (h : NJ g d M pE Z nc ns q (ls.set i (.int (x + Int32.ofInt n))) st ws) : NJ g d M pE Z nc ns pc ls st ws := by
  subst hq
  intro p e R s m args below meth c H locs cells slots Q arr C hS hP hD hv K
  obtain ⟨k, hk⟩ := lvl_pos (g := gid g) (by simp) hl
  exact lv_iinc C.1 C.2.1 hdg hv hk rfl hn rfl (fun arr' hv' => h p e R s m args below meth c H locs cells slots Q arr' C hS hP hD (lvl_store (x := .int (x + Int32.ofInt n)) hL hv') K)
theorem n_iconst {n : Int} {v : Int32} (hdg : decode M.2.1 pc = .ok (.iconst n, 1)) (hq : pc + 1 = q) (hv0 : Int32.ofInt n = v) (h : NJ g d M pE Z nc ns q ls (.int v :: st) ws) : NJ g d M pE Z nc ns pc ls st ws := by
  subst hq
  intro p e R s m args below meth c H locs cells slots Q arr C hS hP hD hv K
  exact lv_iconst C.1 C.2.1 hdg hv0 (h p e R s m args below meth c H locs cells slots Q arr C hS hP hD hv K)
theorem n_bipush {n : Int} {v : Int32} (hdg : decode M.2.1 pc = .ok (.bipush n, 2)) (hq : pc + 2 = q) (hv0 : (Int8.ofInt n).toInt32 = v) (h : NJ g d M pE Z nc ns q ls (.int v :: st) ws) : NJ g d M pE Z nc ns pc ls st ws := by
  subst hq
  intro p e R s m args below meth c H locs cells slots Q arr C hS hP hD hv K
  exact lv_bipush C.1 C.2.1 hdg hv0 (h p e R s m args below meth c H locs cells slots Q arr C hS hP hD hv K)
theorem n_sipush {n : Int} {v : Int32} (hdg : decode M.2.1 pc = .ok (.sipush n, 3)) (hq : pc + 3 = q) (hv0 : (Int16.ofInt n).toInt32 = v) (h : NJ g d M pE Z nc ns q ls (.int v :: st) ws) : NJ g d M pE Z nc ns pc ls st ws := by
  subst hq
  intro p e R s m args below meth c H locs cells slots Q arr C hS hP hD hv K
  exact lv_sipush C.1 C.2.1 hdg hv0 (h p e R s m args below meth c H locs cells slots Q arr C hS hP hD hv K)
theorem n_dup {v : Value} (hdg : decode M.2.1 pc = .ok (.dup, 1)) (hq : pc + 1 = q) (hc : v.category = 1) (h : NJ g d M pE Z nc ns q ls (v :: v :: st) ws) : NJ g d M pE Z nc ns pc ls (v :: st) ws := by
  subst hq
  intro p e R s m args below meth c H locs cells slots Q arr C hS hP hD hv K
  exact lv_dup C.1 C.2.1 hdg hc (h p e R s m args below meth c H locs cells slots Q arr C hS hP hD hv K)
theorem n_goto {off : Int} (hdg : decode M.2.1 pc = .ok (.goto off, 3)) (hq : (pc : Int) + off = (q : Int)) (h : NJ g d M pE Z nc ns q ls st ws) : NJ g d M pE Z nc ns pc ls st ws := by
  intro p e R s m args below meth c H locs cells slots Q arr C hS hP hD hv K
  exact lv_goto C.1 C.2.1 hdg hq (h p e R s m args below meth c H locs cells slots Q arr C hS hP hD hv K)
theorem n_ge_t {x y : Int32} {off : Int} {t : Nat} (hdg : decode M.2.1 pc = .ok (.if_icmp .ge off, 3)) (ht : (pc : Int) + off = (t : Int)) (hxy : y ≤ x) (h : NJ g d M pE Z nc ns t ls st ws) : NJ g d M pE Z nc ns pc ls (.int y :: .int x :: st) ws := by
  intro p e R s m args below meth c H locs cells slots Q arr C hS hP hD hv K
  exact lv_icmp_ge C.1 C.2.1 hdg ht (fun _ => h p e R s m args below meth c H locs cells slots Q arr C hS hP hD hv K) (fun z => absurd hxy z)
theorem n_ge_f {x y : Int32} {off : Int} {t : Nat} (hdg : decode M.2.1 pc = .ok (.if_icmp .ge off, 3)) (ht : (pc : Int) + off = (t : Int)) (hq : pc + 3 = q) (hxy : ¬ y ≤ x) (h : NJ g d M pE Z nc ns q ls st ws) : NJ g d M pE Z nc ns pc ls (.int y :: .int x :: st) ws := by
  subst hq
  intro p e R s m args below meth c H locs cells slots Q arr C hS hP hD hv K
  exact lv_icmp_ge C.1 C.2.1 hdg ht (fun z => absurd z hxy) (fun _ => h p e R s m args below meth c H locs cells slots Q arr C hS hP hD hv K)
theorem n_ldcS (hM : M.1.cls = RX1) (hdg : decode M.2.1 pc = .ok (.ldc 22, 2)) (hq : pc + 2 = q) (h : NJ g d M pE Z nc ns q ls (.ref (gad g 100) :: st) ws) : NJ g d M pE Z nc ns pc ls st ws := by
  subst hq
  intro p e R s m args below meth c H locs cells slots Q arr C hS hP hD hv K
  exact va_ldcS C.1 C.2.1 (own := RX1) (by rw [← hM]; exact C.2.2.2.1) C.2.2.2.2.2.2.2.2.1.2.2.2 hdg (h p e R s m args below meth c H locs cells slots Q arr C hS hP hD hv K)
theorem n_obj {idx x : Nat} (hl : Cond.methodLink M.1.cls idx Lib.objectInit ∈ lw_g) (hdg : decode M.2.1 pc = .ok (.invokespecial idx, 3)) (hq : pc + 3 = q) (hd : 1 ≤ d) (hcat : (st.map fun v => v.category).sum ≤ 8) (h : NJ g d M pE Z nc ns q ls st ws) : NJ g d M pE Z nc ns pc ls (.ref x :: st) ws := by
  subst hq
  intro p e R s m args below meth c H locs cells slots Q arr C hS hP hD hv K
  obtain ⟨hx, hb, hml, hown, hts, hK, hSt, hSk, hE, hR, hcs, hnm, hsz⟩ := id C
  have hr : 2 * (F0 m pc arr (.ref x :: st)).monitorRoom + (st.map fun v => v.category).sum ≤ 8 := lv_room (rest := .ref x :: st) hcat
  refine W.objInit hx hb hown (hts _ hl) (hts _ (mw 86 _ (by decide +kernel) rfl)) (hts _ (mw 87 (Cond.code Lib.objectInit ⟨#[0xb1]⟩ 1 none) (by decide +kernel) rfl)) rfl (by rw [hml]; exact hv.1) rfl hdg (by omega) (by omega) ?_
  exact W.eq (g2 := F0 m (pc + 3) arr st) rfl (h p e R s m args below meth c H locs cells slots Q arr C hS hP hD hv K)
/-- what a new object of class ci is -/
def NWc (ci n : Nat) (C : String) (fs : List Value) : Prop := ∃ (T : u_T) (ty : Nat → FieldType), clsL[ci]? = some (C, T, n) ∧ (∀ k, k < n → parseFieldDescriptor (T k).2.2.1 = some (ty k)) ∧ Cond.instantiable C n ∈ lw_g ∧ Cond.initialized C ∈ lw_g ∧ ∀ j, j < n → defaultValue (ty j) = vp_V fs j
theorem n_new {ci n idx : Nat} {C : String} {fs : List Value} (hw : NWc ci n C fs) (hcl : Cond.classLink M.1.cls idx C ∈ lw_g) (hdg : decode M.2.1 pc = .ok (.new idx, 3)) (hq : pc + 3 = q) (h : ∀ x : Nat, NJ g d M pE Z nc ns q ls (.ref x :: st) (ws0 ++ (L ++ [(x, .inr (ci, fs))]))) : NJ g d M pE Z (nc + 1) (ns + n) pc ls st (ws0 ++ L) := by
  subst hq
  intro p e R s m args below meth c H locs cells slots Q arr C hS hP hD hv K
  obtain ⟨hx, hb, hml, hown, hts, hK, hSt, hSk, hE, hR, hcs, hnm, hsz⟩ := id C
  obtain ⟨T, ty, w1, w2, w3, w4, w5⟩ := hw
  refine va_new hx hb hts (cls_in ci _ w1) ty w2 hown (hts _ hcl) (hts _ w3) (hts _ w4) C.K hP hD hS C.A w1 w5 (by omega) (by show slots + n ≤ _; omega) hdg (fun x H1 hP1 hD1 hS1 => ?_)
  rw [List.append_assoc] at hP1 hD1
  refine h x p e R s m args below meth c H1 locs (cells + 1) (slots + n) Q arr C.less hS1 hP1 hD1 hv ?_
  intro arr' ls' H' locs' ws' z k1 k2 k3 k4
  have := K arr' ls' H' locs' ws' z k1 k2 k3 k4
  rw [show cells + (nc + 1) = cells + 1 + nc by omega, show slots + (ns + n) = slots + n + ns by omega] at this
  exact this
theorem n_newI {v : Int32} {n : Nat} (hdg : decode M.2.1 pc = .ok (.newarray .int, 2)) (hq : pc + 2 = q) (hn : ¬ v < 0) (hN : v.toNatClampNeg = n) (hb4 : n ≤ 1000) (h : ∀ x : Nat, NJ g d M pE Z nc ns q ls (.ref x :: st) (ws0 ++ (L ++ [(x, .inl (gcA g 2, n, .inl (fun _ => 0)))]))) : NJ g d M pE Z (nc + 1) (ns + n) pc ls (.int v :: st) (ws0 ++ L) := by
  subst hq
  intro p e R s m args below meth c H locs cells slots Q arr C hS hP hD hv K
  obtain ⟨hx, hb, hml, hown, hts, hK, hSt, hSk, hE, hR, hcs, hnm, hsz⟩ := id C
  refine va_newa (atype := .int) (ty := .int) (a0 := (n, .inl (fun _ => 0))) hx hb (hts _ (mw 134 _ (by decide +kernel) rfl)) rfl C.K hP hD hS C.A (fun _ => rfl) hn hN (by show n * 4 ≤ _; omega) (by omega) (by omega) hdg (fun x cA H1 hK1 hP1 hD1 hS1 => ?_)
  have e := hK.ra (a := 2) (ty := .int) rfl (hK1.2 0 (cA, .int) rfl).2
  subst e
  rw [List.append_assoc] at hP1 hD1
  refine h x p _ R s m args below meth c H1 locs (cells + 1) (slots + n) Q arr C.less hS1 hP1 hD1 hv ?_
  intro arr' ls' H' locs' ws' z k1 k2 k3 k4
  have := K arr' ls' H' locs' ws' z k1 k2 k3 k4
  rw [show cells + (nc + 1) = cells + 1 + nc by omega, show slots + (ns + n) = slots + n + ns by omega] at this
  exact this
theorem n_newB {v : Int32} {n : Nat} (hdg : decode M.2.1 pc = .ok (.newarray .byte, 2)) (hq : pc + 2 = q) (hn : ¬ v < 0) (hN : v.toNatClampNeg = n) (hb4 : n ≤ 1000) (h : ∀ x : Nat, NJ g d M pE Z nc ns q ls (.ref x :: st) (ws0 ++ (L ++ [(x, .inl (gcA g 13, n, .inl (fun _ => 0)))]))) : NJ g d M pE Z (nc + 1) (ns + n) pc ls (.int v :: st) (ws0 ++ L) := by
  subst hq
  intro p e R s m args below meth c H locs cells slots Q arr C hS hP hD hv K
  obtain ⟨hx, hb, hml, hown, hts, hK, hSt, hSk, hE, hR, hcs, hnm, hsz⟩ := id C
  refine va_newa (atype := .byte) (ty := .byte) (a0 := (n, .inl (fun _ => 0))) hx hb (hts _ (mw 135 _ (by decide +kernel) rfl)) rfl C.K hP hD hS C.A (fun _ => rfl) hn hN (by show n * 1 ≤ _; omega) (by omega) (by omega) hdg (fun x cA H1 hK1 hP1 hD1 hS1 => ?_)
  have e := hK.ra (a := 13) (ty := .byte) rfl (hK1.2 0 (cA, .byte) rfl).2
  subst e
  rw [List.append_assoc] at hP1 hD1
  refine h x p _ R s m args below meth c H1 locs (cells + 1) (slots + n) Q arr C.less hS1 hP1 hD1 hv ?_
  intro arr' ls' H' locs' ws' z k1 k2 k3 k4
  have := K arr' ls' H' locs' ws' z k1 k2 k3 k4
  rw [show cells + (nc + 1) = cells + 1 + nc by omega, show slots + (ns + n) = slots + n + ns by omega] at this
  exact this
theorem n_newQ {v : Int32} {n idx a : Nat} {C0 : String} (ha : aty a = some (.object C0)) (hao : ∀ U, EX g U → va_AO C0 U) (hcl : Cond.classLink M.1.cls idx C0 ∈ lw_g) (hdg : decode M.2.1 pc = .ok (.anewarray idx, 3)) (hq : pc + 3 = q) (hn : ¬ v < 0) (hN : v.toNatClampNeg = n) (hb4 : n ≤ 1000) (h : ∀ x : Nat, NJ g d M pE Z nc ns q ls (.ref x :: st) (ws0 ++ (L ++ [(x, .inl (gcA g a, n, .inr (.inr (.inr (.inr (fun _ => none))))))]))) : NJ g d M pE Z (nc + 1) (ns + n) pc ls (.int v :: st) (ws0 ++ L) := by
  subst hq
  intro p e R s m args below meth c H locs cells slots Q arr C hS hP hD hv K
  obtain ⟨hx, hb, hml, hown, hts, hK, hSt, hSk, hE, hR, hcs, hnm, hsz⟩ := id C
  refine va_newq hx hb hown (hts _ hcl) (hao _ hE) C.K hP hD hS C.A hn hN (by omega) (by omega) (by omega) hdg (fun x cA H1 hK1 hP1 hD1 hS1 => ?_)
  have e := hK.ra (a := a) ha (hK1.2 0 (cA, .object C0) rfl).2
  subst e
  rw [List.append_assoc] at hP1 hD1
  refine h x p _ R s m args below meth c H1 locs (cells + 1) (slots + n) Q arr C.less hS1 hP1 hD1 hv ?_
  intro arr' ls' H' locs' ws' z k1 k2 k3 k4
  have := K arr' ls' H' locs' ws' z k1 k2 k3 k4
  rw [show cells + (nc + 1) = cells + 1 + nc by omega, show slots + (ns + n) = slots + n + ns by omega] at this
  exact this
/-- place idx of a class's own constants is its final field k -/
def FO (M : MM) (idx ci k : Nat) (ty : FieldType) : Prop := ∃ q : vw_C, clsL[ci]? = some q ∧ k < q.2.2 ∧ Cond.fieldLink M.1.cls idx (q.2.1 k).1 (q.2.1 k).2.1 (q.2.1 k).2.2.1 ∈ lw_g ∧ (q.2.1 k).2.2.2 = true ∧ (q.2.1 k).1 = M.1.cls ∧ M.1.name = "<init>" ∧ parseFieldDescriptor (q.2.1 k).2.2.1 = some ty
theorem n_putF {ci k k0 idx a : Nat} {fs : List Value} {v : Value} {ty : FieldType} (hf : FO M idx ci k ty) (he : L[k0]? = some (a, .inr (ci, fs))) (hn : narrow ty v = v) (hfit : fits ty v = true) (hl : k < fs.length) (hdg : decode M.2.1 pc = .ok (.putfield idx, 3)) (hq : pc + 3 = q) (h : NJ g d M pE Z nc ns q ls st (ws0 ++ L.set k0 (a, .inr (ci, fs.set k v)))) : NJ g d M pE Z nc ns pc ls (v :: .ref a :: st) (ws0 ++ L) := by
  subst hq
  intro p e R s m args below meth c H locs cells slots Q arr C hS hP hD hv K
  obtain ⟨hx, hb, hml, hown, hts, hK, hSt, hSk, hE, hR, hcs, hnm, hsz⟩ := id C
  obtain ⟨⟨CC, TT, NN⟩, h1, h2, h3, hfin, hdecl, hin, hd⟩ := hf
  obtain ⟨hnmd, ty0, hty0⟩ := cls_ty ci _ h1
  have he0 : (ws0 ++ L)[ws0.length + k0]? = some (a, .inr (ci, fs)) := ap_get.trans he
  have kk := h p e R s m args below meth c
  rw [← ap_set] at kk
  exact va_putF hx hb hts (cls_in ci _ h1) ty0 hty0 hnmd hown C.K hP hD hS _ he0 h1 k h2 (hts _ h3) (fun _ z => z) hfin (hnm hin) hdecl hd hn hfit hl hdg (fun H1 locs1 hP1 hD1 hS1 => kk H1 locs1 cells slots Q arr C hS1 hP1 hD1 hv K)
theorem n_put {ci k k0 idx a : Nat} {fs : List Value} {v : Value} {ty : FieldType} (hf : FS M.1.cls idx ci k) (hfp : FP ci k ty) (he : L[k0]? = some (a, .inr (ci, fs))) (hn : narrow ty v = v) (hfit : fits ty v = true) (hl : k < fs.length) (hdg : decode M.2.1 pc = .ok (.putfield idx, 3)) (hq : pc + 3 = q) (h : NJ g d M pE Z nc ns q ls st (ws0 ++ L.set k0 (a, .inr (ci, fs.set k v)))) : NJ g d M pE Z nc ns pc ls (v :: .ref a :: st) (ws0 ++ L) := by
  subst hq
  intro p e R s m args below meth c H locs cells slots Q arr C hS hP hD hv K
  obtain ⟨hx, hb, hml, hown, hts, hK, hSt, hSk, hE, hR, hcs, hnm, hsz⟩ := id C
  obtain ⟨⟨CC, TT, NN⟩, h1, h2, h3⟩ := hf
  obtain ⟨q', h1', hfin, hd⟩ := hfp
  cases h1.symm.trans h1'
  obtain ⟨hnmd, ty0, hty0⟩ := cls_ty ci _ h1
  have he0 : (ws0 ++ L)[ws0.length + k0]? = some (a, .inr (ci, fs)) := ap_get.trans he
  have kk := h p e R s m args below meth c
  rw [← ap_set] at kk
  rcases h3 with h3 | ⟨host, h3⟩
  · exact va_put hx hb hts (cls_in ci _ h1) ty0 hty0 hnmd hown C.K hP hD hS _ he0 h1 k h2 (hts _ h3) (fun _ z => z) hfin hd hn hfit hl hdg (fun H1 locs1 hP1 hD1 hS1 => kk H1 locs1 cells slots Q arr C hS1 hP1 hD1 hv K)
  · exact va_putN hx hb hts (cls_in ci _ h1) ty0 hty0 hnmd hown C.K hP hD hS _ he0 h1 k h2 (hSk.nst h3) (fun _ z => z) hfin hd hn hfit hl hdg (fun H1 locs1 hP1 hD1 hS1 => kk H1 locs1 cells slots Q arr C hS1 hP1 hD1 hv K)
theorem n_get {ci k k0 idx a : Nat} {fs : List Value} {v : Value} (hf : FS M.1.cls idx ci k) (he : L[k0]? = some (a, .inr (ci, fs))) (hv0 : fs[k]? = some v) (hdg : decode M.2.1 pc = .ok (.getfield idx, 3)) (hq : pc + 3 = q) (h : NJ g d M pE Z nc ns q ls (v :: st) (ws0 ++ L)) : NJ g d M pE Z nc ns pc ls (.ref a :: st) (ws0 ++ L) := by
  subst hq
  intro p e R s m args below meth c H locs cells slots Q arr C hS hP hD hv K
  obtain ⟨hx, hb, hml, hown, hts, hK, hSt, hSk, hE, hR, hcs, hnm, hsz⟩ := id C
  obtain ⟨⟨CC, TT, NN⟩, h1, h2, h3⟩ := hf
  have he0 : (ws0 ++ L)[ws0.length + k0]? = some (a, .inr (ci, fs)) := ap_get.trans he
  have kk := h p e R s m args below meth c H locs cells slots Q arr C hS hP hD hv K
  rcases h3 with h3 | ⟨host, h3⟩
  · exact va_get hx hb hts (cls_in ci _ h1) hown C.K hP _ he0 h1 k h2 (hts _ h3) (fun _ z => z) hv0 hdg kk
  · exact va_getN hx hb hts (cls_in ci _ h1) hown C.K hP _ he0 h1 k h2 (hSk.nst h3) (fun _ z => z) hv0 hdg kk
theorem n_alenQ {k0 a b n : Nat} {C0 : String} {f : Nat → Option Nat} {v : Int32} (hb0 : aty b = some (.object C0)) (he : L[k0]? = some (a, .inl (gcA g b, n, .inr (.inr (.inr (.inr f)))))) (hv0 : Int32.ofNat n = v) (hdg : decode M.2.1 pc = .ok (.arraylength, 1)) (hq : pc + 1 = q) (h : NJ g d M pE Z nc ns q ls (.int v :: st) (ws0 ++ L)) : NJ g d M pE Z nc ns pc ls (.ref a :: st) (ws0 ++ L) := by
  subst hq
  intro p e R s m args below meth c H locs cells slots Q arr C hS hP hD hv K
  obtain ⟨hx, hb, hml, hown, hts, hK, hSt, hSk, hE, hR, hcs, hnm, hsz⟩ := id C
  exact va_alen (x := (n, .inr (.inr (.inr (.inr f))))) hx hb (hK.K1 hb0) hP _ 0 (ap_get.trans he) rfl hv0 hdg (h p e R s m args below meth c H locs cells slots Q arr C hS hP hD hv K)
theorem n_astq {k0 k1 a b n ci x : Nat} {r : vw_C} {f : Nat → Option Nat} {vs : List Value} {i : Int32} (hc : clsL[ci]? = some r) (hb0 : aty b = some (.object r.1)) (he : L[k0]? = some (a, .inl (gcA g b, n, .inr (.inr (.inr (.inr f)))))) (he1 : L[k1]? = some (x, .inr (ci, vs))) (hin : vp_in i n) (hdg : decode M.2.1 pc = .ok (.aastore, 1)) (hq : pc + 1 = q) (h : NJ g d M pE Z nc ns q ls st (ws0 ++ L.set k0 (a, .inl (gcA g b, n, .inr (.inr (.inr (.inr (va_up f i.toNatClampNeg (some x)))))))))  : NJ g d M pE Z nc ns pc ls (.ref x :: .int i :: .ref a :: st) (ws0 ++ L) := by
  subst hq
  intro p e R s m args below meth c H locs cells slots Q arr C hS hP hD hv K
  obtain ⟨hx, hb, hml, hown, hts, hK, hSt, hSk, hE, hR, hcs, hnm, hsz⟩ := id C
  have kk := h p e R s m args below meth c
  rw [← ap_set] at kk
  exact va_astq hx hb (hK.K1 hb0) hP hD hS _ 0 _ ci (ap_get.trans he) rfl (ap_get.trans he1) hc hin hdg (fun H1 locs1 hP1 hD1 hS1 => kk H1 locs1 cells slots Q arr C hS1 hP1 hD1 hv K)
theorem n_iast {k0 a n : Nat} {f : Nat → Int32} {i x : Int32} (he : L[k0]? = some (a, .inl (gcA g 2, n, .inl f))) (hin : vp_in i n) (hdg : decode M.2.1 pc = .ok (.iastore, 1)) (hq : pc + 1 = q) (h : NJ g d M pE Z nc ns q ls st (ws0 ++ L.set k0 (a, .inl (gcA g 2, n, .inl (upd f i.toNatClampNeg x))))) : NJ g d M pE Z nc ns pc ls (.int x :: .int i :: .ref a :: st) (ws0 ++ L) := by
  subst hq
  intro p e R s m args below meth c H locs cells slots Q arr C hS hP hD hv K
  obtain ⟨hx, hb, hml, hown, hts, hK, hSt, hSk, hE, hR, hcs, hnm, hsz⟩ := id C
  have kk := h p e R s m args below meth c
  rw [← ap_set] at kk
  exact va_iast hx hb (hK.K1 (a := 2) (ty := .int) rfl) hP hD hS _ 0 (ap_get.trans he) rfl hin hdg (fun H1 locs1 hP1 hD1 hS1 => kk H1 locs1 cells slots Q arr C hS1 hP1 hD1 hv K)
-- constructors
def RV (g : GT) (ws : va_W) (U : State) : Prop := va_P (gD g) clsL ws U.heap ∧ va_D (gA g) ws ∧ KN g U ∧ STh g U U.heap ∧ STk g U ∧ EX g U ∧ gb g ≤ U.heap.size
def Rn (d nc ns : Nat) : Room := { frames := d, cells := nc, slots := ns, locals := 40 * d }
def CTI (g : GT) (d : Nat) (M : MM) (as : List Value) (ci : Nat) (fs0 : List Value) (nc ns : Nat) (Z : Nat → va_W → Prop) : Prop := ∀ (ws0 : va_W) (h0 : Nat), Met (gl g) M.1 (Cond.code M.1 M.2.1 M.2.2.1 M.2.2.2 :: lw_g) (Rn d nc ns) (va_Pc (.ref h0 :: as) (RV g (ws0 ++ [(h0, .inr (ci, fs0))]))) (va_Qv (fun L : va_W => Z h0 L) (fun L t => va_P (gD g) clsL (ws0 ++ L) t.heap ∧ va_D (gA g) (ws0 ++ L)) (gA g)) nc ns (gA g)
theorem cti_of {as : List Value} {ci : Nat} {fs0 : List Value} {Zc : Nat → va_W → Prop} (ls0 : List Value) (hy : plainName M.1.cls = true) (hname : M.1.name = "<init>") (hret : M.2.2.2 = none) (ha : ∀ h0, lvl (gid g) 0 (.ref h0 :: ls0) = lv_args 0 (.ref h0 :: as)) (hlen : (lg_sl (.ref 0 :: as)).length ≤ M.2.2.1) (hdg : decode M.2.1 pE = .ok (.return_, 1)) (hN : ∀ (ws0 : va_W) (h0 : Nat), NJ g d M pE (fun _ ws => ∃ L, ws = ws0 ++ L ∧ Zc h0 L) nc ns 0 (.ref h0 :: ls0) [] (ws0 ++ [(h0, .inr (ci, fs0))])) : CTI g d M as ci fs0 nc ns Zc := by
  intro ws0 h0
  refine Met.ofW (cc := M.2.1) (maxL := M.2.2.1) (ret := M.2.2.2) hy rfl ?_
  intro p e s m args below meth c s₁ B hml hv
  obtain ⟨rfl, hP, hD, hK, hSt, hSk, hE, hsz⟩ := hv
  have hts := atoms_spec (ws := Cond.code M.1 M.2.1 M.2.2.1 M.2.2.2 :: lw_g) B.pre
  have hown : s.vm.findClass M.1.cls = some m.cls := findClass_of_methodNamed B.named
  have hlocks := B.notSynchronized
  have hx := B.exec
  have hb := B.bytes
  have hr := B.returns
  have hin : meth.name = M.1.name := (name_of_methodNamed B.named B.method).1
  have hS : va_S (gA g) s.heap s.heap [] := va_S.rf
  have hl := lv_entry (.ref h0 :: as) (n := M.2.2.1) hlen
  rw [← ha h0] at hl
  rw [lg_entry_eq]
  refine hN ws0 h0 p e _ s m _ below meth c s.heap [] 0 0 _ _ ⟨hx, hb, hml, hown, fun w hw => hts w (List.mem_cons_of_mem _ hw), hK, hSt, hSk, hE, ⟨Nat.le_refl _, Nat.le_refl _⟩, ⟨by show 0 + nc ≤ nc; omega, by show 0 + ns ≤ ns; omega⟩, fun _ => hin.trans hname, hsz⟩ hS hP hD hl ?_
  intro arr' ls' H' locs' ws' hz hl' hS' hP' hD'
  obtain ⟨L, rfl, hZ⟩ := hz
  rw [Nat.zero_add, Nat.zero_add]
  exact W.vret hx hb (hr.trans hret) (fun t ht hW => ⟨⟨L, rfl, hZ, by rw [ht]; exact hP', hD'⟩, hS'.F ht⟩) hS'.2.2 hdg
def MI (M : MM) (n : Nat) : Prop := Cond.code M.1 M.2.1 M.2.2.1 M.2.2.2 ∈ lw_g ∧ Cond.initialized M.1.cls ∈ lw_g ∧ (M.1.cls ≠ "java/lang/invoke/MethodHandle" ∧ M.1.cls ≠ "java/lang/invoke/VarHandle") ∧ M.2.2.1 ≤ 12 ∧ Cond.instanceMethod M.1 ∈ lw_g ∧ M.1.name = "<init>" ∧ M.2.2.2 = none ∧ NA M n
theorem RV_blind {as : List Value} {ws : va_W} : ∀ (a : Array Value) (U : State) (gf : JFrame) (mk : MethodId), va_Pc as (RV g ws) a U → va_Pc as (RV g ws) a (U.calling gf mk a) := by
  intro a U gf mk h
  obtain ⟨h1, hP, hD, hK, hSt, hSk, hE, hsz⟩ := h
  exact ⟨h1, hP, hD, KN.moved (u := U) (U := U.calling gf mk a) (Vm.Alike.refl U.vm) hK, STh.moved (u := U) (U := U.calling gf mk a) (Vm.Alike.refl U.vm) hSt, STk.same (u := U) (U := U.calling gf mk a) rfl hSk, EX.same (u := U) (U := U.calling gf mk a) rfl hE, hsz⟩
theorem n_call {M' : MM} {d' nc' ns' idx n ci h0 : Nat} {as fs0 : List Value} {Zc : Nat → va_W → Prop} (hl : LK M.1.cls idx M'.1) (hm : MI M' n) (hn : as.length = n) (hd : d' + 1 ≤ d) (hrest : (st.map fun v => v.category).sum ≤ 8) (hdg : decode M.2.1 pc = .ok (.invokespecial idx, 3)) (hq : pc + 3 = q) (hc : CTI g d' M' as ci fs0 nc' ns' Zc) (h : ∀ L', Zc h0 L' → NJ g d M pE Z nc ns q ls st (ws0 ++ (L ++ L'))) : NJ g d M pE Z (nc + nc') (ns + ns') pc ls (as.reverse ++ .ref h0 :: st) (ws0 ++ (L ++ [(h0, .inr (ci, fs0))])) := by
  subst hq
  intro p e R s m args below meth c H locs cells slots Q arr C hS hP hD hv K
  obtain ⟨hx, hb, hml, hown, hts, hK, hSt, hSk, hE, hR, hcs, hnm, hsz⟩ := id C
  obtain ⟨m1, m2, m3, m4, m5, m6, m7, m8⟩ := hm
  rw [m7] at m1
  have hroom : (Rn d' nc' ns').frames + 1 ≤ R.frames ∧ 8 + (M'.2.2.1 + 11) + (Rn d' nc' ns').locals ≤ R.locals := ⟨by show d' + 1 ≤ R.frames; omega, by show 8 + (M'.2.2.1 + 11) + 40 * d' ≤ R.locals; omega⟩
  have hc0 := hc (ws0 ++ L) h0
  rw [m7] at hc0
  rw [← List.append_assoc] at hP hD
  have hpre : PreS s H (va_Pc (.ref h0 :: as) (RV g ((ws0 ++ L) ++ [(h0, .inr (ci, fs0))]))) (.ref h0 :: as) := ⟨RV_blind, fun U hU hW => ⟨rfl, by rw [hU]; exact hP, hD, hK.moved hW.alike, by rw [hU]; exact (hSt.kept hS.2.1).moved hW.alike, hSk.warm hW, hE.warm hW, by rw [hU]; exact Nat.le_trans hsz hS.1⟩⟩
  have hrm : 2 * (F0 m pc arr (as.reverse ++ .ref h0 :: st)).monitorRoom + (st.map fun v => v.category).sum ≤ 8 := lv_room (rest := as.reverse ++ .ref h0 :: st) hrest
  have hroom2 : cells + nc' ≤ R.cells ∧ slots + ns' ≤ R.slots := ⟨by omega, by omega⟩
  have hrun : va_Run p (gl g) e R s m args below meth c H locs cells slots nc' ns' (F0 m pc arr (as.reverse ++ .ref h0 :: st)) st (va_Qv (fun L' : va_W => Zc h0 L') (fun L' t => va_P (gD g) clsL ((ws0 ++ L) ++ L') t.heap ∧ va_D (gA g) ((ws0 ++ L) ++ L')) (gA g) (Value.ref h0 :: as).toArray) (gA g) := by
    rcases hl with hl | ⟨host, hl⟩
    · exact va_runI ⟨hx, hb, hml, hown, hts⟩ hc0 ⟨callB_of n hts (GI m1) rfl rfl rfl (hts _ m2) (hts _ hl) ⟨m3.1, m3.2, m8⟩ hroom, m6, hts _ m5⟩ hpre rfl hn hv.1 rfl hrm hdg hroom2
    · exact va_runIN ⟨hx, hb, hml, hown, hts⟩ hc0 ⟨va_cnB n hts (GI m1) rfl rfl rfl (hSk.2.2 _ hl) (hts _ m2) ⟨m3.1, m3.2, m8⟩ hroom, m6, hts _ m5⟩ hpre rfl hn hv.1 rfl hrm hdg hroom2
  refine va_callv hrun hS (fun q _ h => h) (fun q h => h) ?_
  intro L' t H1 locs1 ht hvm hz hB hz1 hk1 hS1
  obtain ⟨hP1, hD1⟩ := hB
  rw [ht, List.append_assoc] at hP1
  rw [List.append_assoc] at hD1
  refine h L' hz p e R s m args below meth c H1 locs1 (cells + nc') (slots + ns') Q arr C.less hS1 hP1 hD1 hv ?_
  intro arr' ls' H' locs' ws' z k1 k2 k3 k4
  have := K arr' ls' H' locs' ws' z k1 k2 k3 k4
  rw [show cells + (nc + nc') = cells + nc' + nc by omega, show slots + (ns + ns') = slots + ns' + ns by omega] at this
  exact this
end NR
