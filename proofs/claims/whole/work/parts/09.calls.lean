section JC
variable {g : GT} {d d' : Nat} {M M' : MM} {Z Z' : Value → S_ → Prop} {pc q : Nat} {ls st rest : List Value} {σ : S_}
/-- exactly this answer, and this picture -/
def EQ (r : Value) (τ : S_) : Value → S_ → Prop := fun r' τ' => r' = r ∧ τ' = τ
-- ends of a method
theorem j_iret {x : Int32} {ty : FieldType} (hdg : decode M.2.1 pc = .ok (.ireturn, 1)) (hr : M.2.2.2 = some ty) (hn : narrow ty (.int x) = .int x) (ho : ∀ n, ty ≠ .object n) (hz : Z (.int x) σ) : J g d M Z pc ls [.int x] σ := by
  intro p e R s m args below meth c H locs cells slots Q arr C hS hP hv K
  exact K pc arr (.int x) H locs σ hz ⟨hdg, ty, hr, hn, ho⟩ hS hP
theorem j_ireti {x : Int32} (hdg : decode M.2.1 pc = .ok (.ireturn, 1)) (hr : M.2.2.2 = some .int) (hz : Z (.int x) σ) : J g d M Z pc ls [.int x] σ := j_iret hdg hr rfl (fun _ h => by cases h) hz
theorem j_iretz {x : Int32} (hdg : decode M.2.1 pc = .ok (.ireturn, 1)) (hr : M.2.2.2 = some .boolean) (hx : x = 0 ∨ x = 1) (hz : Z (.int x) σ) : J g d M Z pc ls [.int x] σ := j_iret hdg hr (by rcases hx with rfl | rfl <;> rfl) (fun _ h => by cases h) hz
theorem j_vret (hdg : decode M.2.1 pc = .ok (.return_, 1)) (hr : M.2.2.2 = none) (hz : Z .null σ) : J g d M Z pc ls [] σ := by
  intro p e R s m args below meth c H locs cells slots Q arr C hS hP hv K
  exact K pc arr .null H locs σ hz ⟨hdg, hr⟩ hS hP
theorem j_aret {a : Nat} {n : String} (hdg : decode M.2.1 pc = .ok (.areturn, 1)) (hr : M.2.2.2 = some (.object n)) (hz : Z (.ref a) σ) : J g d M Z pc ls [.ref a] σ := by
  intro p e R s m args below meth c H locs cells slots Q arr C hS hP hv K
  exact K pc arr (.ref a) H locs σ hz ⟨hdg, n, hr⟩ hS hP
theorem lw_g_good : ∀ w ∈ lw_g, ((w.onTables && w.keeps) = true ∨ ∃ ty, w = .arrayClass ty) := fun w h => good_of_word (List.mem_filter.mp h).2
theorem narrow_ne {ty : FieldType} : True := trivial
/-- THE CONTRACT out of the walk from the method's entry -/
theorem ct_of {as : List Value} (ls0 : List Value) (hy : plainName M.1.cls = true) (ha : lvl g 0 ls0 = lv_args 0 (as.map (tr g))) (hlen : (lg_sl (as.map (tr g))).length ≤ M.2.2.1) (hJ : J g d M Z 0 ls0 [] σ) : CT g d M as σ Z := by
  unfold CT
  refine Met.ofW (cc := M.2.1) (maxL := M.2.2.1) (ret := M.2.2.2) hy rfl ?_
  intro p e s m args below meth c s₁ B hml hv
  obtain ⟨rfl, hA, hP, hK, hSt, hSk⟩ := hv
  have hts := atoms_spec (ws := Cond.code M.1 M.2.1 M.2.2.1 M.2.2.2 :: lw_g) B.pre
  have hown : s.vm.findClass M.1.cls = some m.cls := findClass_of_methodNamed B.named
  have hlocks := B.notSynchronized
  have hx := B.exec
  have hb := B.bytes
  have hr := B.returns
  have hS : va_S (gA g) s.heap s.heap [] := va_S.rf
  have hl := lv_entry (as.map (tr g)) (n := M.2.2.1) hlen
  rw [← ha] at hl
  rw [lg_entry_eq]
  refine hJ p e _ s m _ below meth c s.heap [] 0 0 _ _ ⟨hx, hb, hml, hown, fun w hw => hts w (List.mem_cons_of_mem _ hw), hA, hK, hSt, hSk, ⟨Nat.le_refl _, Nat.le_refl _⟩, ⟨Nat.zero_le _, Nat.zero_le _⟩⟩ hS hP hl ?_
  intro pc' arr' v H' locs' τ hz hi hS' hP'
  cases v with
  | int x =>
    obtain ⟨hdg, ty, hrt, hn, ho⟩ := hi
    have hq : QM g M.2.2.2 Z = va_Qi (fun r u => Z (.int r) u) (fun u t => va_P (gD g) clsL (cws g u) t.heap) (gA g) := by
      rw [hrt]
      cases ty <;> first | rfl | exact absurd rfl (ho _)
    rw [hq]
    exact W.zret (v := x) hx hb (hr.trans hrt) hn (fun t ht hW => ⟨⟨x, τ, rfl, hz, by show va_P (gD g) clsL (cws g τ) t.heap; rw [ht]; exact hP'⟩, hS'.F ht⟩) hS'.2.2 hdg
  | null =>
    obtain ⟨hdg, hrt⟩ := hi
    have hq : QM g M.2.2.2 Z = va_Qv (fun u => Z .null u) (fun u t => va_P (gD g) clsL (cws g u) t.heap) (gA g) := by rw [hrt]; rfl
    rw [hq]
    exact W.vret hx hb (hr.trans hrt) (fun t ht hW => ⟨⟨τ, rfl, hz, by show va_P (gD g) clsL (cws g τ) t.heap; rw [ht]; exact hP'⟩, hS'.F ht⟩) hS'.2.2 hdg
  | ref a =>
    obtain ⟨hdg, n, hrt⟩ := hi
    have hq : QM g M.2.2.2 Z = va_Qr (fun u : S_ × Nat => Z (.ref u.2) u.1) (fun u a t => a = gad g u.2 ∧ va_P (gD g) clsL (cws g u.1) t.heap) (gA g) := by rw [hrt]; rfl
    rw [hq]
    exact W.aret (v := .ref (gad g a)) hx hb (hr.trans hrt) (Or.inl ⟨n, rfl⟩) (Or.inr ⟨_, rfl⟩) (fun t ht hW => ⟨⟨(τ, a), gad g a, rfl, hz, rfl, by show va_P (gD g) clsL (cws g τ) t.heap; rw [ht]; exact hP'⟩, hS'.F ht⟩) hS'.2.2 hdg
  | long x => exact absurd hi (by simp [IR])
  | float x => exact absurd hi (by simp [IR])
  | double x => exact absurd hi (by simp [IR])
  | retAddr x => exact absurd hi (by simp [IR])
theorem RU_blind {g : GT} {as : List Value} {σ : S_} : FrameBlind (va_Pc (as.map (tr g)) (RU g σ)) := by
  intro a U gf mk h
  obtain ⟨h1, hA, hP, hK, hSt, hSk⟩ := h
  exact ⟨h1, hA, hP, KN.moved (u := U) (U := U.calling gf mk a) (Vm.Alike.refl U.vm) hK, STh.moved (u := U) (U := U.calling gf mk a) (Vm.Alike.refl U.vm) hSt, STk.same (u := U) (U := U.calling gf mk a) rfl hSk⟩
theorem RU_call {g : GT} {as : List Value} {σ : S_} {s : State} {H : Heap} {locs : List Loc} (hA : AD g) (hP : va_P (gD g) clsL (cws g σ) H) (hK : KN g s) (hSt : STh g s s.heap) (hSk : STk g s) (hS : va_S (gA g) s.heap H locs) : ∀ U : State, U.heap = H → s.WarmedH U.vm → va_Pc (as.map (tr g)) (RU g σ) (as.map (tr g)).toArray U := by
  intro U hU hW
  exact ⟨rfl, hA, by rw [hU]; exact hP, hK.moved hW.alike, by rw [hU]; exact (hSt.kept hS.2.1).moved hW.alike, hSk.warm hW⟩
/-- the class of the object at a number -/
def OB (b : Nat) (C : String) : Prop := (∃ ci q, tC[b]? = some (3, ci) ∧ clsL[ci]? = some q ∧ q.1 = C) ∨ ∃ i, i < 3 ∧ b = 100 + i ∧ C = "java/lang/String"
theorem OB.recv {b : Nat} {C : String} (h : OB b C) {g : GT} {σ : S_} {s : State} {H : Heap} {locs : List Loc} (hP : va_P (gD g) clsL (cws g σ) H) (hK : KN g s) (hSt : STh g s s.heap) (hS : va_S (gA g) s.heap H locs) : ∃ cellB : Cell, H[gad g b]? = some cellB ∧ cellB.vm.isStatics = false ∧ s.vm.findClass C = some cellB.cls := by
  rcases h with ⟨ci, q, h1, h2, rfl⟩ | ⟨i, h1, rfl, rfl⟩
  · exact va_recv hK.K hP (q0 := b) (fs := flds g σ b ci) h2 (by rw [cws_at g σ (tC_lt h1), cel_obj h1])
  · exact vk_recv (i := i) hSt.1 h1 hS
/-- a call's words: what links it, and how (kind 0: an instance method; 1: a static one), in the caller's own words or a nest mate's -/
def LK (own : String) (idx : Nat) (y : MethodName) : Prop := Cond.methodLink own idx y ∈ lw_g ∨ ∃ host, Cond.methodLinkNest own idx y host ∈ lw_n
/-- a method's own words -/
def MV (M : MM) : Prop := Cond.code M.1 M.2.1 M.2.2.1 M.2.2.2 ∈ lw_g ∧ Cond.initialized M.1.cls ∈ lw_g ∧ (M.1.cls ≠ "java/lang/invoke/MethodHandle" ∧ M.1.cls ≠ "java/lang/invoke/VarHandle") ∧ M.2.2.1 ≤ 12 ∧ Cond.instanceMethod M.1 ∈ lw_g ∧ Cond.selects M.1.cls M.1 M.1 ∈ lw_g
def MS (M : MM) : Prop := Cond.code M.1 M.2.1 M.2.2.1 M.2.2.2 ∈ lw_g ∧ Cond.initialized M.1.cls ∈ lw_g ∧ (M.1.cls ≠ "java/lang/invoke/MethodHandle" ∧ M.1.cls ≠ "java/lang/invoke/VarHandle") ∧ M.2.2.1 ≤ 12 ∧ Cond.static M.1 ∈ lw_g
def NA (M : MM) (n : Nat) : Prop := (parseMethodDescriptor M.1.desc).map (fun d => d.parameters.length) = some n
theorem GI {w : Cond} (hw : w ∈ lw_g) : GoodIn lw_g (w :: lw_g) := by
  intro v hv
  rcases List.mem_cons.mp hv with h | h
  · subst h; exact ⟨hw, lw_g_good _ hw⟩
  · exact ⟨h, lw_g_good _ h⟩
theorem run_V {idx n : Nat} {b : Nat} {as : List Value} {p : Program} {e : Env} {R : Room} {s : State} {m : MethodId} {args : Array Value} {below : List Frame} {meth : Method} {c : Code} {H : Heap} {locs : List Loc} {cells slots : Nat} {arr : Array Slot}
    (hl : LK M.1.cls idx M'.1) (hm : MV M') (hna : NA M' n) (hob : OB b M'.1.cls) (hn : as.length = n) (hd : d' + 1 ≤ d) (hrest : (rest.map fun v => v.category).sum ≤ 8) (hdg : decode M.2.1 pc = .ok (.invokevirtual idx, 3)) (hc : CT g d' M' (.ref b :: as) σ Z')
    (C : CX g d M p R s m args c cells slots) (hS : va_S (gA g) s.heap H locs) (hP : va_P (gD g) clsL (cws g σ) H) (hv : lv_has arr M.2.2.1 (lvl g 0 ls)) :
    va_Run p (gl g) e R s m args below meth c H locs cells slots 0 0 (F0 m pc arr ((as.map (tr g)).reverse ++ .ref (gad g b) :: rest.map (tr g))) (rest.map (tr g)) (QM g M'.2.2.2 Z' (Value.ref (gad g b) :: as.map (tr g)).toArray) (gA g) := by
  obtain ⟨hx, hb, hml, hown, hts, hA, hK, hSt, hSk, hR, hcs⟩ := id C
  obtain ⟨m1, m2, m3, m4, m5, m6⟩ := hm
  have hroom : (Rm d').frames + 1 ≤ R.frames ∧ 8 + (M'.2.2.1 + 11) + (Rm d').locals ≤ R.locals := ⟨by show d' + 1 ≤ R.frames; omega, by show 8 + (M'.2.2.1 + 11) + 40 * d' ≤ R.locals; omega⟩
  have hpre : PreV s H M'.1.cls (gad g b) (va_Pc ((Value.ref b :: as).map (tr g)) (RU g σ)) (as.map (tr g)) := ⟨RU_blind, hob.recv hP hK hSt hS, RU_call (as := .ref b :: as) hA hP hK hSt hSk hS⟩
  have hrm : 2 * (F0 m pc arr ((as.map (tr g)).reverse ++ .ref (gad g b) :: rest.map (tr g))).monitorRoom + ((rest.map (tr g)).map fun v => v.category).sum ≤ 8 := by rw [tr_cats]; exact lv_room (rest := (as.map (tr g)).reverse ++ .ref (gad g b) :: rest.map (tr g)) hrest
  rcases hl with hl | ⟨host, hl⟩
  · exact va_runV ⟨hx, hb, hml, hown, hts⟩ hc ⟨callB_of n hts (GI m1) rfl rfl rfl (hts _ m2) (hts _ hl) ⟨m3.1, m3.2, hna⟩ hroom, hts _ m5, hts _ m6⟩ hpre rfl (by rw [List.length_map]; exact hn) hv.1 rfl hrm hdg ⟨hcs.1, hcs.2⟩
  · exact va_runVN (C := M'.1.cls) ⟨hx, hb, hml, hown, hts⟩ hc ⟨va_cnB n hts (GI m1) rfl rfl rfl (hSk.2.2 _ hl) (hts _ m2) ⟨m3.1, m3.2, hna⟩ hroom, hts _ m5, hts _ m6⟩ hpre rfl (by rw [List.length_map]; exact hn) hv.1 rfl hrm hdg ⟨hcs.1, hcs.2⟩
theorem run_S {idx n : Nat} {as : List Value} {p : Program} {e : Env} {R : Room} {s : State} {m : MethodId} {args : Array Value} {below : List Frame} {meth : Method} {c : Code} {H : Heap} {locs : List Loc} {cells slots : Nat} {arr : Array Slot}
    (hl : LK M.1.cls idx M'.1) (hm : MS M') (hna : NA M' n) (hn : as.length = n) (hd : d' + 1 ≤ d) (hrest : (rest.map fun v => v.category).sum ≤ 8) (hdg : decode M.2.1 pc = .ok (.invokestatic idx, 3)) (hc : CT g d' M' as σ Z')
    (C : CX g d M p R s m args c cells slots) (hS : va_S (gA g) s.heap H locs) (hP : va_P (gD g) clsL (cws g σ) H) (hv : lv_has arr M.2.2.1 (lvl g 0 ls)) :
    va_Run p (gl g) e R s m args below meth c H locs cells slots 0 0 (F0 m pc arr ((as.map (tr g)).reverse ++ rest.map (tr g))) (rest.map (tr g)) (QM g M'.2.2.2 Z' (as.map (tr g)).toArray) (gA g) := by
  obtain ⟨hx, hb, hml, hown, hts, hA, hK, hSt, hSk, hR, hcs⟩ := id C
  obtain ⟨m1, m2, m3, m4, m5⟩ := hm
  have hroom : (Rm d').frames + 1 ≤ R.frames ∧ 8 + (M'.2.2.1 + 11) + (Rm d').locals ≤ R.locals := ⟨by show d' + 1 ≤ R.frames; omega, by show 8 + (M'.2.2.1 + 11) + 40 * d' ≤ R.locals; omega⟩
  have hpre : PreS s H (va_Pc (as.map (tr g)) (RU g σ)) (as.map (tr g)) := ⟨RU_blind, RU_call (as := as) hA hP hK hSt hSk hS⟩
  have hrm : 2 * (F0 m pc arr ((as.map (tr g)).reverse ++ rest.map (tr g))).monitorRoom + ((rest.map (tr g)).map fun v => v.category).sum ≤ 8 := by rw [tr_cats]; exact lv_room (rest := (as.map (tr g)).reverse ++ rest.map (tr g)) hrest
  rcases hl with hl | ⟨host, hl⟩
  · exact va_runS ⟨hx, hb, hml, hown, hts⟩ hc ⟨callB_of n hts (GI m1) rfl rfl rfl (hts _ m2) (hts _ hl) ⟨m3.1, m3.2, hna⟩ hroom, hts _ m5⟩ hpre rfl (by rw [List.length_map]; exact hn) hv.1 rfl hrm hdg ⟨hcs.1, hcs.2⟩
  · exact va_runSN ⟨hx, hb, hml, hown, hts⟩ hc ⟨va_cnB n hts (GI m1) rfl rfl rfl (hSk.2.2 _ hl) (hts _ m2) ⟨m3.1, m3.2, hna⟩ hroom, hts _ m5, trivial⟩ hpre rfl (by rw [List.length_map]; exact hn) hv.1 rfl hrm hdg ⟨hcs.1, hcs.2⟩

theorem j_callVi {idx n : Nat} {b : Nat} {as : List Value} (hl : LK M.1.cls idx M'.1) (hm : MV M') (hna : NA M' n) (hob : OB b M'.1.cls) (hn : as.length = n) (hd : d' + 1 ≤ d) (hrest : (rest.map fun v => v.category).sum ≤ 8) (hdg : decode M.2.1 pc = .ok (.invokevirtual idx, 3)) (hq : pc + 3 = q) (hr : ∃ ty, M'.2.2.2 = some ty ∧ ∀ n, ty ≠ .object n) (hc : CT g d' M' (.ref b :: as) σ Z') (k : (∀ x τ, Z' (.int x) τ → J g d M Z q ls (.int x :: rest) τ)) : J g d M Z pc ls (as.reverse ++ .ref b :: rest) σ := by
  subst hq
  have hqm : QM g M'.2.2.2 Z' = va_Qi (fun r u => Z' (.int r) u) (fun u t => va_P (gD g) clsL (cws g u) t.heap) (gA g) := by
    obtain ⟨ty, h1, h2⟩ := hr
    rw [h1]
    cases ty <;> first | rfl | exact absurd rfl (h2 _)
  intro p e R s m args below meth c H locs cells slots Q arr C hS hP hv K
  have hrun := run_V (p := p) (e := e) (below := below) (meth := meth) (locs := locs) (cells := cells) (slots := slots) hl hm hna hob hn hd hrest hdg hc C hS hP hv
  rw [hqm] at hrun
  have hst : ((as.reverse ++ .ref b :: rest)).map (tr g) = (as.map (tr g)).reverse ++ .ref (gad g b) :: rest.map (tr g) := by rw [List.map_append, List.map_reverse]; rfl
  rw [hst]
  refine va_calli hrun hS (fun q _ h => h) (fun q h => h) ?_
  · intro r u t H1 locs1 ht hvm hw hB hz1 hk1 hS1
    rw [← ht] at hS1 ⊢
    exact k r u hw p e R s m args below meth c _ locs1 cells slots Q arr C hS1 hB hv K
theorem j_callVv {idx n : Nat} {b : Nat} {as : List Value} (hl : LK M.1.cls idx M'.1) (hm : MV M') (hna : NA M' n) (hob : OB b M'.1.cls) (hn : as.length = n) (hd : d' + 1 ≤ d) (hrest : (rest.map fun v => v.category).sum ≤ 8) (hdg : decode M.2.1 pc = .ok (.invokevirtual idx, 3)) (hq : pc + 3 = q) (hr : M'.2.2.2 = none) (hc : CT g d' M' (.ref b :: as) σ Z') (k : (∀ τ, Z' .null τ → J g d M Z q ls rest τ)) : J g d M Z pc ls (as.reverse ++ .ref b :: rest) σ := by
  subst hq
  have hqm : QM g M'.2.2.2 Z' = va_Qv (fun u => Z' .null u) (fun u t => va_P (gD g) clsL (cws g u) t.heap) (gA g) := by rw [hr]; rfl
  intro p e R s m args below meth c H locs cells slots Q arr C hS hP hv K
  have hrun := run_V (p := p) (e := e) (below := below) (meth := meth) (locs := locs) (cells := cells) (slots := slots) hl hm hna hob hn hd hrest hdg hc C hS hP hv
  rw [hqm] at hrun
  have hst : ((as.reverse ++ .ref b :: rest)).map (tr g) = (as.map (tr g)).reverse ++ .ref (gad g b) :: rest.map (tr g) := by rw [List.map_append, List.map_reverse]; rfl
  rw [hst]
  refine va_callv hrun hS (fun q _ h => h) (fun q h => h) ?_
  · intro u t H1 locs1 ht hvm hw hB hz1 hk1 hS1
    rw [← ht] at hS1 ⊢
    exact k u hw p e R s m args below meth c _ locs1 cells slots Q arr C hS1 hB hv K
theorem j_callVr {idx n : Nat} {b : Nat} {as : List Value} (hl : LK M.1.cls idx M'.1) (hm : MV M') (hna : NA M' n) (hob : OB b M'.1.cls) (hn : as.length = n) (hd : d' + 1 ≤ d) (hrest : (rest.map fun v => v.category).sum ≤ 8) (hdg : decode M.2.1 pc = .ok (.invokevirtual idx, 3)) (hq : pc + 3 = q) (hr : ∃ n, M'.2.2.2 = some (.object n)) (hc : CT g d' M' (.ref b :: as) σ Z') (k : (∀ a τ, Z' (.ref a) τ → J g d M Z q ls (.ref a :: rest) τ)) : J g d M Z pc ls (as.reverse ++ .ref b :: rest) σ := by
  subst hq
  have hqm : QM g M'.2.2.2 Z' = va_Qr (fun u : S_ × Nat => Z' (.ref u.2) u.1) (fun u a t => a = gad g u.2 ∧ va_P (gD g) clsL (cws g u.1) t.heap) (gA g) := by obtain ⟨n, h1⟩ := hr; rw [h1]; rfl
  intro p e R s m args below meth c H locs cells slots Q arr C hS hP hv K
  have hrun := run_V (p := p) (e := e) (below := below) (meth := meth) (locs := locs) (cells := cells) (slots := slots) hl hm hna hob hn hd hrest hdg hc C hS hP hv
  rw [hqm] at hrun
  have hst : ((as.reverse ++ .ref b :: rest)).map (tr g) = (as.map (tr g)).reverse ++ .ref (gad g b) :: rest.map (tr g) := by rw [List.map_append, List.map_reverse]; rfl
  rw [hst]
  refine va_callr hrun hS (fun q _ h => h) (fun q h => h) ?_
  · intro u a t H1 locs1 ht hvm hw hB hz1 hk1 hS1
    obtain ⟨rfl, hB⟩ := hB
    rw [← ht] at hS1 ⊢
    exact k u.2 u.1 hw p e R s m args below meth c _ locs1 cells slots Q arr C hS1 hB hv K
theorem j_callSi {idx n : Nat} {as : List Value} (hl : LK M.1.cls idx M'.1) (hm : MS M') (hna : NA M' n) (hn : as.length = n) (hd : d' + 1 ≤ d) (hrest : (rest.map fun v => v.category).sum ≤ 8) (hdg : decode M.2.1 pc = .ok (.invokestatic idx, 3)) (hq : pc + 3 = q) (hr : ∃ ty, M'.2.2.2 = some ty ∧ ∀ n, ty ≠ .object n) (hc : CT g d' M' as σ Z') (k : (∀ x τ, Z' (.int x) τ → J g d M Z q ls (.int x :: rest) τ)) : J g d M Z pc ls (as.reverse ++ rest) σ := by
  subst hq
  have hqm : QM g M'.2.2.2 Z' = va_Qi (fun r u => Z' (.int r) u) (fun u t => va_P (gD g) clsL (cws g u) t.heap) (gA g) := by
    obtain ⟨ty, h1, h2⟩ := hr
    rw [h1]
    cases ty <;> first | rfl | exact absurd rfl (h2 _)
  intro p e R s m args below meth c H locs cells slots Q arr C hS hP hv K
  have hrun := run_S (p := p) (e := e) (below := below) (meth := meth) (locs := locs) (cells := cells) (slots := slots) hl hm hna hn hd hrest hdg hc C hS hP hv
  rw [hqm] at hrun
  have hst : ((as.reverse ++ rest)).map (tr g) = (as.map (tr g)).reverse ++ rest.map (tr g) := by rw [List.map_append, List.map_reverse]
  rw [hst]
  refine va_calli hrun hS (fun q _ h => h) (fun q h => h) ?_
  · intro r u t H1 locs1 ht hvm hw hB hz1 hk1 hS1
    rw [← ht] at hS1 ⊢
    exact k r u hw p e R s m args below meth c _ locs1 cells slots Q arr C hS1 hB hv K
theorem j_callSv {idx n : Nat} {as : List Value} (hl : LK M.1.cls idx M'.1) (hm : MS M') (hna : NA M' n) (hn : as.length = n) (hd : d' + 1 ≤ d) (hrest : (rest.map fun v => v.category).sum ≤ 8) (hdg : decode M.2.1 pc = .ok (.invokestatic idx, 3)) (hq : pc + 3 = q) (hr : M'.2.2.2 = none) (hc : CT g d' M' as σ Z') (k : (∀ τ, Z' .null τ → J g d M Z q ls rest τ)) : J g d M Z pc ls (as.reverse ++ rest) σ := by
  subst hq
  have hqm : QM g M'.2.2.2 Z' = va_Qv (fun u => Z' .null u) (fun u t => va_P (gD g) clsL (cws g u) t.heap) (gA g) := by rw [hr]; rfl
  intro p e R s m args below meth c H locs cells slots Q arr C hS hP hv K
  have hrun := run_S (p := p) (e := e) (below := below) (meth := meth) (locs := locs) (cells := cells) (slots := slots) hl hm hna hn hd hrest hdg hc C hS hP hv
  rw [hqm] at hrun
  have hst : ((as.reverse ++ rest)).map (tr g) = (as.map (tr g)).reverse ++ rest.map (tr g) := by rw [List.map_append, List.map_reverse]
  rw [hst]
  refine va_callv hrun hS (fun q _ h => h) (fun q h => h) ?_
  · intro u t H1 locs1 ht hvm hw hB hz1 hk1 hS1
    rw [← ht] at hS1 ⊢
    exact k u hw p e R s m args below meth c _ locs1 cells slots Q arr C hS1 hB hv K
theorem j_callSr {idx n : Nat} {as : List Value} (hl : LK M.1.cls idx M'.1) (hm : MS M') (hna : NA M' n) (hn : as.length = n) (hd : d' + 1 ≤ d) (hrest : (rest.map fun v => v.category).sum ≤ 8) (hdg : decode M.2.1 pc = .ok (.invokestatic idx, 3)) (hq : pc + 3 = q) (hr : ∃ n, M'.2.2.2 = some (.object n)) (hc : CT g d' M' as σ Z') (k : (∀ a τ, Z' (.ref a) τ → J g d M Z q ls (.ref a :: rest) τ)) : J g d M Z pc ls (as.reverse ++ rest) σ := by
  subst hq
  have hqm : QM g M'.2.2.2 Z' = va_Qr (fun u : S_ × Nat => Z' (.ref u.2) u.1) (fun u a t => a = gad g u.2 ∧ va_P (gD g) clsL (cws g u.1) t.heap) (gA g) := by obtain ⟨n, h1⟩ := hr; rw [h1]; rfl
  intro p e R s m args below meth c H locs cells slots Q arr C hS hP hv K
  have hrun := run_S (p := p) (e := e) (below := below) (meth := meth) (locs := locs) (cells := cells) (slots := slots) hl hm hna hn hd hrest hdg hc C hS hP hv
  rw [hqm] at hrun
  have hst : ((as.reverse ++ rest)).map (tr g) = (as.map (tr g)).reverse ++ rest.map (tr g) := by rw [List.map_append, List.map_reverse]
  rw [hst]
  refine va_callr hrun hS (fun q _ h => h) (fun q h => h) ?_
  · intro u a t H1 locs1 ht hvm hw hB hz1 hk1 hS1
    obtain ⟨rfl, hB⟩ := hB
    rw [← ht] at hS1 ⊢
    exact k u.2 u.1 hw p e R s m args below meth c _ locs1 cells slots Q arr C hS1 hB hv K
end JC
