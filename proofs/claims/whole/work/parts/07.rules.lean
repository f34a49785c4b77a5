section JR
variable {g : GT} {d : Nat} {M : MM} {Z : Value → S_ → Prop} {pc q : Nat} {ls st : List Value} {σ : S_}
theorem lvl_in {g : GT} {z : Nat × Value} : ∀ (ls : List Value) (o : Nat), z ∈ lvl g o ls → ∃ j v, ls[j]? = some v ∧ v ≠ .null ∧ z = (j + o, tr g v) := by
  intro ls
  induction ls with
  | nil => intro o h; simp [lvl] at h
  | cons w t ih =>
    intro o h
    by_cases hw : w = .null
    · subst hw
      obtain ⟨j, v, h1, h2, h3⟩ := ih (o + 1) h
      exact ⟨j + 1, v, by simpa using h1, h2, by rw [h3]; congr 1; omega⟩
    · have h' : z ∈ (o, tr g w) :: lvl g (o + 1) t := by
        cases w <;> first | exact absurd rfl hw | exact h
      rcases List.mem_cons.mp h' with h | h
      · exact ⟨0, w, rfl, hw, by rw [h]; simp⟩
      · obtain ⟨j, v, h1, h2, h3⟩ := ih (o + 1) h
        exact ⟨j + 1, v, by simpa using h1, h2, by rw [h3]; congr 1; omega⟩
theorem tr_cat (g : GT) (v : Value) : (tr g v).category = v.category := by cases v <;> rfl
theorem tr_cats (g : GT) (st : List Value) : ((st.map (tr g)).map fun v => v.category).sum = (st.map fun v => v.category).sum := by
  rw [List.map_map]
  congr 1
  apply List.map_congr_left
  intro v _
  exact tr_cat g v
/-- no long stands just ahead of place i -/
def nlg (ls : List Value) (i : Nat) : Prop := ∀ j v, j + 1 = i → ls[j]? = some v → v.category ≠ 2
theorem lvl_store {g : GT} {arr : Array Slot} {nL i : Nat} {ls : List Value} {x : Value} (hL : nlg ls i) (h : lv_has arr nL ((i, tr g x) :: (lvl g 0 ls).filter (fun q => !(q.1 == i) && !(q.1 + 1 == i && q.2.category == 2)))) : lv_has arr nL (lvl g 0 (ls.set i x)) := by
  refine ⟨h.1, h.2.1, fun z hz => h.2.2 z ?_⟩
  obtain ⟨j, v, h1, h2, h3⟩ := lvl_in _ _ hz
  rw [Nat.add_zero] at h3
  by_cases hj : j = i
  · subst hj
    have hlt : j < ls.length := by
      have := (List.getElem?_eq_some_iff.mp h1).1
      simpa using this
    rw [List.getElem?_set_self hlt] at h1
    cases h1
    rw [h3]
    exact List.mem_cons_self
  · rw [List.getElem?_set_ne (Ne.symm hj)] at h1
    refine List.mem_cons_of_mem _ (List.mem_filter.mpr ⟨?_, ?_⟩)
    · have := lvl_mem (g := g) h2 ls j 0 h1
      rw [h3]
      simpa using this
    · rw [h3]
      have : ¬ (j + 1 = i ∧ (tr g v).category = 2) := fun q => hL j v q.1 h1 (by rw [← tr_cat g v]; exact q.2)
      simp [hj]
      by_cases e : j + 1 = i
      · exact Or.inr (fun q => this ⟨e, q⟩)
      · exact Or.inl e
theorem lvl_pos {g : GT} {ls : List Value} {i : Nat} {v : Value} (hv : v ≠ .null) (hi : ls[i]? = some v) : ∃ k : Nat, (lvl g 0 ls)[k]? = some (i, tr g v) := by
  have := lvl_mem (g := g) hv ls i 0 hi
  obtain ⟨k, hk⟩ := List.getElem?_of_mem this
  exact ⟨k, by simpa using hk⟩

theorem j_iload_n {k : Fin 4} {x : Int32} (hdg : decode M.2.1 pc = .ok (.iload_n k, 1)) (hq : pc + 1 = q) (hl : ls[(k : Nat)]? = some (.int x)) (h : J g d M Z q ls (.int x :: st) σ) : J g d M Z pc ls st σ := by
  subst hq
  intro p e R s m args below meth c H locs cells slots Q arr C hS hP hv K
  exact lv_iload_n C.1 C.2.1 hdg rfl (lvl_at hv (by simp) hl) (h p e R s m args below meth c H locs cells slots Q arr C hS hP hv K)
theorem j_iload {i : Nat} {x : Int32} (hdg : decode M.2.1 pc = .ok (.iload i, 2)) (hq : pc + 2 = q) (hl : ls[i]? = some (.int x)) (h : J g d M Z q ls (.int x :: st) σ) : J g d M Z pc ls st σ := by
  subst hq
  intro p e R s m args below meth c H locs cells slots Q arr C hS hP hv K
  exact lv_iload C.1 C.2.1 hdg (lvl_at hv (by simp) hl) (h p e R s m args below meth c H locs cells slots Q arr C hS hP hv K)
theorem j_aload_n {k : Fin 4} {x : Nat} (hdg : decode M.2.1 pc = .ok (.aload_n k, 1)) (hq : pc + 1 = q) (hl : ls[(k : Nat)]? = some (.ref x)) (h : J g d M Z q ls (.ref x :: st) σ) : J g d M Z pc ls st σ := by
  subst hq
  intro p e R s m args below meth c H locs cells slots Q arr C hS hP hv K
  exact lv_aload_n C.1 C.2.1 hdg rfl (lvl_at hv (by simp) hl) (h p e R s m args below meth c H locs cells slots Q arr C hS hP hv K)
theorem j_aload {i : Nat} {x : Nat} (hdg : decode M.2.1 pc = .ok (.aload i, 2)) (hq : pc + 2 = q) (hl : ls[i]? = some (.ref x)) (h : J g d M Z q ls (.ref x :: st) σ) : J g d M Z pc ls st σ := by
  subst hq
  intro p e R s m args below meth c H locs cells slots Q arr C hS hP hv K
  exact lv_aload C.1 C.2.1 hdg (lvl_at hv (by simp) hl) (h p e R s m args below meth c H locs cells slots Q arr C hS hP hv K)
theorem j_lload_n {k : Fin 4} {x : Int64} (hdg : decode M.2.1 pc = .ok (.lload_n k, 1)) (hq : pc + 1 = q) (hl : ls[(k : Nat)]? = some (.long x)) (h : J g d M Z q ls (.long x :: st) σ) : J g d M Z pc ls st σ := by
  subst hq
  intro p e R s m args below meth c H locs cells slots Q arr C hS hP hv K
  exact lv_lload_n C.1 C.2.1 hdg rfl (lvl_at hv (by simp) hl) (h p e R s m args below meth c H locs cells slots Q arr C hS hP hv K)
theorem j_istore_n {k : Fin 4} {x : Int32} (hdg : decode M.2.1 pc = .ok (.istore_n k, 1)) (hq : pc + 1 = q) (hn : (k : Nat) < M.2.2.1) (hL : nlg ls k) (h : J g d M Z q (ls.set k (.int x)) st σ) : J g d M Z pc ls (.int x :: st) σ := by
  subst hq
  intro p e R s m args below meth c H locs cells slots Q arr C hS hP hv K
  exact lv_istore_n C.1 C.2.1 hdg rfl hv hn rfl (fun arr' hv' => h p e R s m args below meth c H locs cells slots Q arr' C hS hP (lvl_store hL hv') K)
theorem j_istore {i : Nat} {x : Int32} (hdg : decode M.2.1 pc = .ok (.istore i, 2)) (hq : pc + 2 = q) (hn : i < M.2.2.1) (hL : nlg ls i) (h : J g d M Z q (ls.set i (.int x)) st σ) : J g d M Z pc ls (.int x :: st) σ := by
  subst hq
  intro p e R s m args below meth c H locs cells slots Q arr C hS hP hv K
  exact lv_istore C.1 C.2.1 hdg hv hn rfl (fun arr' hv' => h p e R s m args below meth c H locs cells slots Q arr' C hS hP (lvl_store hL hv') K)
theorem j_astore_n {k : Fin 4} {x : Nat} (hdg : decode M.2.1 pc = .ok (.astore_n k, 1)) (hq : pc + 1 = q) (hn : (k : Nat) < M.2.2.1) (hL : nlg ls k) (h : J g d M Z q (ls.set k (.ref x)) st σ) : J g d M Z pc ls (.ref x :: st) σ := by
  subst hq
  intro p e R s m args below meth c H locs cells slots Q arr C hS hP hv K
  exact lv_astore_n C.1 C.2.1 hdg rfl hv hn rfl (fun arr' hv' => h p e R s m args below meth c H locs cells slots Q arr' C hS hP (lvl_store hL hv') K)
theorem j_astore {i : Nat} {x : Nat} (hdg : decode M.2.1 pc = .ok (.astore i, 2)) (hq : pc + 2 = q) (hn : i < M.2.2.1) (hL : nlg ls i) (h : J g d M Z q (ls.set i (.ref x)) st σ) : J g d M Z pc ls (.ref x :: st) σ := by
  subst hq
  intro p e R s m args below meth c H locs cells slots Q arr C hS hP hv K
  exact lv_astore C.1 C.2.1 hdg hv hn rfl (fun arr' hv' => h p e R s m args below meth c H locs cells slots Q arr' C hS hP (lvl_store hL hv') K)
theorem j_iinc {i : Nat} {n : Int} {x : Int32} (hdg : decode M.2.1 pc = .ok (.iinc i n, 3)) (hq : pc + 3 = q) (hl : ls[i]? = some (.int x)) (hn : i < M.2.2.1) (hL : nlg ls i) (h : J g d M Z q (ls.set i (.int (x + Int32.ofInt n))) st σ) : J g d M Z pc ls st σ := by
  subst hq
  intro p e R s m args below meth c H locs cells slots Q arr C hS hP hv K
  obtain ⟨k, hk⟩ := lvl_pos (g := g) (by simp) hl
  exact lv_iinc C.1 C.2.1 hdg hv hk rfl hn rfl (fun arr' hv' => h p e R s m args below meth c H locs cells slots Q arr' C hS hP (lvl_store (x := .int (x + Int32.ofInt n)) hL hv') K)
theorem j_iconst {n : Int} {v : Int32} (hdg : decode M.2.1 pc = .ok (.iconst n, 1)) (hq : pc + 1 = q) (hv0 : Int32.ofInt n = v) (h : J g d M Z q ls (.int v :: st) σ) : J g d M Z pc ls st σ := by
  subst hq
  intro p e R s m args below meth c H locs cells slots Q arr C hS hP hv K
  exact lv_iconst C.1 C.2.1 hdg hv0 (h p e R s m args below meth c H locs cells slots Q arr C hS hP hv K)
theorem j_bipush {n : Int} {v : Int32} (hdg : decode M.2.1 pc = .ok (.bipush n, 2)) (hq : pc + 2 = q) (hv0 : (Int8.ofInt n).toInt32 = v) (h : J g d M Z q ls (.int v :: st) σ) : J g d M Z pc ls st σ := by
  subst hq
  intro p e R s m args below meth c H locs cells slots Q arr C hS hP hv K
  exact lv_bipush C.1 C.2.1 hdg hv0 (h p e R s m args below meth c H locs cells slots Q arr C hS hP hv K)
theorem j_sipush {n : Int} {v : Int32} (hdg : decode M.2.1 pc = .ok (.sipush n, 3)) (hq : pc + 3 = q) (hv0 : (Int16.ofInt n).toInt32 = v) (h : J g d M Z q ls (.int v :: st) σ) : J g d M Z pc ls st σ := by
  subst hq
  intro p e R s m args below meth c H locs cells slots Q arr C hS hP hv K
  exact lv_sipush C.1 C.2.1 hdg hv0 (h p e R s m args below meth c H locs cells slots Q arr C hS hP hv K)
theorem j_ldc {i : Nat} {v : Int32} (hw : Cond.constant M.1.cls i v ∈ lw_g) (hdg : decode M.2.1 pc = .ok (.ldc i, 2)) (hq : pc + 2 = q) (h : J g d M Z q ls (.int v :: st) σ) : J g d M Z pc ls st σ := by
  subst hq
  intro p e R s m args below meth c H locs cells slots Q arr C hS hP hv K
  exact lv_ldc C.1 C.2.1 C.2.2.2.1 (C.2.2.2.2.1 _ hw) hdg (h p e R s m args below meth c H locs cells slots Q arr C hS hP hv K)
theorem j_ldcw {i : Nat} {v : Int32} (hw : Cond.constant M.1.cls i v ∈ lw_g) (hdg : decode M.2.1 pc = .ok (.ldc_w i, 3)) (hq : pc + 3 = q) (h : J g d M Z q ls (.int v :: st) σ) : J g d M Z pc ls st σ := by
  subst hq
  intro p e R s m args below meth c H locs cells slots Q arr C hS hP hv K
  exact lv_ldcw C.1 C.2.1 C.2.2.2.1 (C.2.2.2.2.1 _ hw) hdg (h p e R s m args below meth c H locs cells slots Q arr C hS hP hv K)
theorem j_ldc2 {i : Nat} {v : Int64} (hw : Cond.constantLong M.1.cls i v ∈ lw_g) (hdg : decode M.2.1 pc = .ok (.ldc2_w i, 3)) (hq : pc + 3 = q) (h : J g d M Z q ls (.long v :: st) σ) : J g d M Z pc ls st σ := by
  subst hq
  intro p e R s m args below meth c H locs cells slots Q arr C hS hP hv K
  exact lv_ldc2 C.1 C.2.1 C.2.2.2.1 (C.2.2.2.2.1 _ hw) hdg (h p e R s m args below meth c H locs cells slots Q arr C hS hP hv K)
theorem lw_ldcwS {p : Program} {l : Launch} {e : Env} {R : Room} {s : State} {m : MethodId} {args : Array Value} {below : List Frame} {meth : Method} {c : Code} {H : Heap} {locs : List Loc} {cells slots : Nat} {Q : State → Prop} {cc : ByteArray} {pc : Nat} {ls : Array Slot} {rest : List Value}
    (hexec : p.tables.exec = Jvm.exec) (hb : c.code = cc) {own tx : String} {index a : Nat} (hown : s.vm.findClass own = some m.cls) (hZ : vk_R own index tx a s) (hdg : decode cc pc = .ok (.ldc_w index, 3))
    (k : W p l e R s m args below meth c H locs cells slots Q (F0 m (pc + 3) ls (.ref a :: rest))) : W p l e R s m args below meth c H locs cells slots Q (F0 m pc ls rest) := by
  intro T hT X
  obtain ⟨t, a1, b1⟩ := k T hT X
  obtain ⟨k0, cf, i, a', hk, hcf, hcp, -, hr, hev'⟩ := Cond.stringRef_spec hown hZ.1
  cases hZ.2.symm.trans hev'
  obtain ⟨k', hk', he⟩ := X.warmed.alike.2.2 _ _ hk
  have hr' : k'.resolved[index]? = some (some (.string a)) := by
    rcases X.warmed.entry hk hk' index with h | ⟨h, -⟩
    · rw [h]; exact hr
    · rw [hr] at h; cases h
  refine ⟨t, ?_, b1⟩
  jvm_step X.here [hexec, hb, hdg, ldc_w.wp_string (e := e) (s := T) (f := F0 m pc ls rest) X.here.top hk' (by rw [he]; exact hcf) hcp hr']
  exact a1
theorem j_ldcS_gdh (hc : M.1.cls = RX7) (hdg : decode M.2.1 pc = .ok (.ldc_w 311, 3)) (hq : pc + 3 = q) (h : J g d M Z q ls (.ref 101 :: st) σ) : J g d M Z pc ls st σ := by
  subst hq
  intro p e R s m args below meth c H locs cells slots Q arr C hS hP hv K
  exact lw_ldcwS C.1 C.2.1 (own := RX7) (by rw [← hc]; exact C.2.2.2.1) C.2.2.2.2.2.2.2.2.1.1 hdg (h p e R s m args below meth c H locs cells slots Q arr C hS hP hv K)
theorem j_ldcS_pds (hc : M.1.cls = RX7) (hdg : decode M.2.1 pc = .ok (.ldc_w 313, 3)) (hq : pc + 3 = q) (h : J g d M Z q ls (.ref 102 :: st) σ) : J g d M Z pc ls st σ := by
  subst hq
  intro p e R s m args below meth c H locs cells slots Q arr C hS hP hv K
  exact lw_ldcwS C.1 C.2.1 (own := RX7) (by rw [← hc]; exact C.2.2.2.1) C.2.2.2.2.2.2.2.2.1.2.1 hdg (h p e R s m args below meth c H locs cells slots Q arr C hS hP hv K)
theorem j_iadd {x y : Int32} (hdg : decode M.2.1 pc = .ok (.iadd, 1)) (hq : pc + 1 = q) (h : J g d M Z q ls (.int (x + y) :: st) σ) : J g d M Z pc ls (.int y :: .int x :: st) σ := by
  subst hq
  intro p e R s m args below meth c H locs cells slots Q arr C hS hP hv K
  exact lv_iadd C.1 C.2.1 hdg (h p e R s m args below meth c H locs cells slots Q arr C hS hP hv K)
theorem j_isub {x y : Int32} (hdg : decode M.2.1 pc = .ok (.isub, 1)) (hq : pc + 1 = q) (h : J g d M Z q ls (.int (x - y) :: st) σ) : J g d M Z pc ls (.int y :: .int x :: st) σ := by
  subst hq
  intro p e R s m args below meth c H locs cells slots Q arr C hS hP hv K
  exact lv_isub C.1 C.2.1 hdg (h p e R s m args below meth c H locs cells slots Q arr C hS hP hv K)
theorem j_imul {x y : Int32} (hdg : decode M.2.1 pc = .ok (.imul, 1)) (hq : pc + 1 = q) (h : J g d M Z q ls (.int (x * y) :: st) σ) : J g d M Z pc ls (.int y :: .int x :: st) σ := by
  subst hq
  intro p e R s m args below meth c H locs cells slots Q arr C hS hP hv K
  exact lv_imul C.1 C.2.1 hdg (h p e R s m args below meth c H locs cells slots Q arr C hS hP hv K)
theorem j_iand {x y : Int32} (hdg : decode M.2.1 pc = .ok (.iand, 1)) (hq : pc + 1 = q) (h : J g d M Z q ls (.int (x &&& y) :: st) σ) : J g d M Z pc ls (.int y :: .int x :: st) σ := by
  subst hq
  intro p e R s m args below meth c H locs cells slots Q arr C hS hP hv K
  exact lv_iand C.1 C.2.1 hdg (h p e R s m args below meth c H locs cells slots Q arr C hS hP hv K)
theorem j_ior {x y : Int32} (hdg : decode M.2.1 pc = .ok (.ior, 1)) (hq : pc + 1 = q) (h : J g d M Z q ls (.int (x ||| y) :: st) σ) : J g d M Z pc ls (.int y :: .int x :: st) σ := by
  subst hq
  intro p e R s m args below meth c H locs cells slots Q arr C hS hP hv K
  exact lv_ior C.1 C.2.1 hdg (h p e R s m args below meth c H locs cells slots Q arr C hS hP hv K)
theorem j_ixor {x y : Int32} (hdg : decode M.2.1 pc = .ok (.ixor, 1)) (hq : pc + 1 = q) (h : J g d M Z q ls (.int (x ^^^ y) :: st) σ) : J g d M Z pc ls (.int y :: .int x :: st) σ := by
  subst hq
  intro p e R s m args below meth c H locs cells slots Q arr C hS hP hv K
  exact lv_ixor C.1 C.2.1 hdg (h p e R s m args below meth c H locs cells slots Q arr C hS hP hv K)
theorem j_ishl {x y : Int32} (hdg : decode M.2.1 pc = .ok (.ishl, 1)) (hq : pc + 1 = q) (h : J g d M Z q ls (.int (x <<< (y &&& 31)) :: st) σ) : J g d M Z pc ls (.int y :: .int x :: st) σ := by
  subst hq
  intro p e R s m args below meth c H locs cells slots Q arr C hS hP hv K
  exact lv_ishl C.1 C.2.1 hdg (h p e R s m args below meth c H locs cells slots Q arr C hS hP hv K)
theorem j_ishr {x y : Int32} (hdg : decode M.2.1 pc = .ok (.ishr, 1)) (hq : pc + 1 = q) (h : J g d M Z q ls (.int (x >>> (y &&& 31)) :: st) σ) : J g d M Z pc ls (.int y :: .int x :: st) σ := by
  subst hq
  intro p e R s m args below meth c H locs cells slots Q arr C hS hP hv K
  exact lv_ishr C.1 C.2.1 hdg (h p e R s m args below meth c H locs cells slots Q arr C hS hP hv K)
theorem j_iushr {x y : Int32} (hdg : decode M.2.1 pc = .ok (.iushr, 1)) (hq : pc + 1 = q) (h : J g d M Z q ls (.int ((x.toUInt32 >>> (y.toUInt32 &&& Int32.toUInt32 31)).toInt32) :: st) σ) : J g d M Z pc ls (.int y :: .int x :: st) σ := by
  subst hq
  intro p e R s m args below meth c H locs cells slots Q arr C hS hP hv K
  exact lv_iushr C.1 C.2.1 hdg rfl (h p e R s m args below meth c H locs cells slots Q arr C hS hP hv K)
theorem j_idiv {x y : Int32} (hdg : decode M.2.1 pc = .ok (.idiv, 1)) (hq : pc + 1 = q) (hne : ¬ y = 0) (h : J g d M Z q ls (.int (x / y) :: st) σ) : J g d M Z pc ls (.int y :: .int x :: st) σ := by
  subst hq
  intro p e R s m args below meth c H locs cells slots Q arr C hS hP hv K
  exact lv_idiv C.1 C.2.1 hdg hne (h p e R s m args below meth c H locs cells slots Q arr C hS hP hv K)
theorem j_irem {x y : Int32} (hdg : decode M.2.1 pc = .ok (.irem, 1)) (hq : pc + 1 = q) (hne : ¬ y = 0) (h : J g d M Z q ls (.int (x - x / y * y) :: st) σ) : J g d M Z pc ls (.int y :: .int x :: st) σ := by
  subst hq
  intro p e R s m args below meth c H locs cells slots Q arr C hS hP hv K
  exact lv_irem C.1 C.2.1 hdg hne (h p e R s m args below meth c H locs cells slots Q arr C hS hP hv K)
theorem j_ineg {x : Int32} (hdg : decode M.2.1 pc = .ok (.ineg, 1)) (hq : pc + 1 = q) (h : J g d M Z q ls (.int (-x) :: st) σ) : J g d M Z pc ls (.int x :: st) σ := by
  subst hq
  intro p e R s m args below meth c H locs cells slots Q arr C hS hP hv K
  exact lv_ineg C.1 C.2.1 hdg (h p e R s m args below meth c H locs cells slots Q arr C hS hP hv K)
theorem j_i2l {x : Int32} (hdg : decode M.2.1 pc = .ok (.i2l, 1)) (hq : pc + 1 = q) (h : J g d M Z q ls (.long x.toInt64 :: st) σ) : J g d M Z pc ls (.int x :: st) σ := by
  subst hq
  intro p e R s m args below meth c H locs cells slots Q arr C hS hP hv K
  exact lv_i2l C.1 C.2.1 hdg rfl (h p e R s m args below meth c H locs cells slots Q arr C hS hP hv K)
theorem j_l2i {x : Int64} (hdg : decode M.2.1 pc = .ok (.l2i, 1)) (hq : pc + 1 = q) (h : J g d M Z q ls (.int x.toInt32 :: st) σ) : J g d M Z pc ls (.long x :: st) σ := by
  subst hq
  intro p e R s m args below meth c H locs cells slots Q arr C hS hP hv K
  exact lv_l2i C.1 C.2.1 hdg rfl (h p e R s m args below meth c H locs cells slots Q arr C hS hP hv K)
theorem j_i2b {x : Int32} (hdg : decode M.2.1 pc = .ok (.i2b, 1)) (hq : pc + 1 = q) (h : J g d M Z q ls (.int x.toInt8.toInt32 :: st) σ) : J g d M Z pc ls (.int x :: st) σ := by
  subst hq
  intro p e R s m args below meth c H locs cells slots Q arr C hS hP hv K
  exact lv_i2b C.1 C.2.1 hdg rfl (h p e R s m args below meth c H locs cells slots Q arr C hS hP hv K)
theorem j_i2s {x : Int32} (hdg : decode M.2.1 pc = .ok (.i2s, 1)) (hq : pc + 1 = q) (h : J g d M Z q ls (.int x.toInt16.toInt32 :: st) σ) : J g d M Z pc ls (.int x :: st) σ := by
  subst hq
  intro p e R s m args below meth c H locs cells slots Q arr C hS hP hv K
  exact lv_i2s C.1 C.2.1 hdg rfl (h p e R s m args below meth c H locs cells slots Q arr C hS hP hv K)
theorem j_i2c {x : Int32} (hdg : decode M.2.1 pc = .ok (.i2c, 1)) (hq : pc + 1 = q) (h : J g d M Z q ls (.int (x.toUInt32 % 65536).toInt32 :: st) σ) : J g d M Z pc ls (.int x :: st) σ := by
  subst hq
  intro p e R s m args below meth c H locs cells slots Q arr C hS hP hv K
  exact lv_i2c C.1 C.2.1 hdg rfl (h p e R s m args below meth c H locs cells slots Q arr C hS hP hv K)
theorem j_land {x y : Int64} (hdg : decode M.2.1 pc = .ok (.land, 1)) (hq : pc + 1 = q) (h : J g d M Z q ls (.long (x &&& y) :: st) σ) : J g d M Z pc ls (.long y :: .long x :: st) σ := by
  subst hq
  intro p e R s m args below meth c H locs cells slots Q arr C hS hP hv K
  exact lv_land C.1 C.2.1 hdg (h p e R s m args below meth c H locs cells slots Q arr C hS hP hv K)
theorem j_lor {x y : Int64} (hdg : decode M.2.1 pc = .ok (.lor, 1)) (hq : pc + 1 = q) (h : J g d M Z q ls (.long (x ||| y) :: st) σ) : J g d M Z pc ls (.long y :: .long x :: st) σ := by
  subst hq
  intro p e R s m args below meth c H locs cells slots Q arr C hS hP hv K
  exact lv_lor C.1 C.2.1 hdg (h p e R s m args below meth c H locs cells slots Q arr C hS hP hv K)
theorem j_lshl {x : Int64} {y : Int32} (hdg : decode M.2.1 pc = .ok (.lshl, 1)) (hq : pc + 1 = q) (h : J g d M Z q ls (.long (x <<< (y.toInt64 &&& 63)) :: st) σ) : J g d M Z pc ls (.int y :: .long x :: st) σ := by
  subst hq
  intro p e R s m args below meth c H locs cells slots Q arr C hS hP hv K
  exact lv_lshl C.1 C.2.1 hdg rfl (h p e R s m args below meth c H locs cells slots Q arr C hS hP hv K)
theorem j_lshr {x : Int64} {y : Int32} (hdg : decode M.2.1 pc = .ok (.lshr, 1)) (hq : pc + 1 = q) (h : J g d M Z q ls (.long (x >>> (y.toInt64 &&& 63)) :: st) σ) : J g d M Z pc ls (.int y :: .long x :: st) σ := by
  subst hq
  intro p e R s m args below meth c H locs cells slots Q arr C hS hP hv K
  exact lv_lshr C.1 C.2.1 hdg rfl (h p e R s m args below meth c H locs cells slots Q arr C hS hP hv K)
theorem j_lushr {x : Int64} {y : Int32} (hdg : decode M.2.1 pc = .ok (.lushr, 1)) (hq : pc + 1 = q) (h : J g d M Z q ls (.long ((x.toUInt64 >>> (y.toInt64.toUInt64 &&& Int64.toUInt64 63)).toInt64) :: st) σ) : J g d M Z pc ls (.int y :: .long x :: st) σ := by
  subst hq
  intro p e R s m args below meth c H locs cells slots Q arr C hS hP hv K
  exact lv_lushr C.1 C.2.1 hdg rfl (h p e R s m args below meth c H locs cells slots Q arr C hS hP hv K)
theorem j_dup {v : Value} (hdg : decode M.2.1 pc = .ok (.dup, 1)) (hq : pc + 1 = q) (hc : v.category = 1) (h : J g d M Z q ls (v :: v :: st) σ) : J g d M Z pc ls (v :: st) σ := by
  subst hq
  intro p e R s m args below meth c H locs cells slots Q arr C hS hP hv K
  exact lv_dup C.1 C.2.1 hdg (by rw [tr_cat]; exact hc) (h p e R s m args below meth c H locs cells slots Q arr C hS hP hv K)
theorem j_dup2 {v w : Value} (hdg : decode M.2.1 pc = .ok (.dup2, 1)) (hq : pc + 1 = q) (hc : v.category = 1) (hc2 : w.category = 1) (h : J g d M Z q ls (v :: w :: v :: w :: st) σ) : J g d M Z pc ls (v :: w :: st) σ := by
  subst hq
  intro p e R s m args below meth c H locs cells slots Q arr C hS hP hv K
  exact lv_dup2_11 C.1 C.2.1 hdg (by rw [tr_cat]; exact hc) (by rw [tr_cat]; exact hc2) (h p e R s m args below meth c H locs cells slots Q arr C hS hP hv K)
theorem j_goto {off : Int} (hdg : decode M.2.1 pc = .ok (.goto off, 3)) (hq : (pc : Int) + off = (q : Int)) (h : J g d M Z q ls st σ) : J g d M Z pc ls st σ := by
  intro p e R s m args below meth c H locs cells slots Q arr C hS hP hv K
  exact lv_goto C.1 C.2.1 hdg hq (h p e R s m args below meth c H locs cells slots Q arr C hS hP hv K)
theorem j_icmp_eq {x y : Int32} {off : Int} {t : Nat} (hdg : decode M.2.1 pc = .ok (.if_icmp .eq off, 3)) (ht : (pc : Int) + off = (t : Int)) (hq : pc + 3 = q) (kt : x = y → J g d M Z t ls st σ) (kf : ¬ x = y → J g d M Z q ls st σ) : J g d M Z pc ls (.int y :: .int x :: st) σ := by
  subst hq
  intro p e R s m args below meth c H locs cells slots Q arr C hS hP hv K
  exact lv_icmp_eq C.1 C.2.1 hdg ht (fun z => kt z p e R s m args below meth c H locs cells slots Q arr C hS hP hv K) (fun z => kf z p e R s m args below meth c H locs cells slots Q arr C hS hP hv K)
theorem j_if_eq {x : Int32} {off : Int} {t : Nat} (hdg : decode M.2.1 pc = .ok (.ifCond .eq off, 3)) (ht : (pc : Int) + off = (t : Int)) (hq : pc + 3 = q) (kt : x = 0 → J g d M Z t ls st σ) (kf : ¬ x = 0 → J g d M Z q ls st σ) : J g d M Z pc ls (.int x :: st) σ := by
  subst hq
  intro p e R s m args below meth c H locs cells slots Q arr C hS hP hv K
  exact lv_if_eq C.1 C.2.1 hdg ht (fun z => kt z p e R s m args below meth c H locs cells slots Q arr C hS hP hv K) (fun z => kf z p e R s m args below meth c H locs cells slots Q arr C hS hP hv K)
theorem j_icmp_ne {x y : Int32} {off : Int} {t : Nat} (hdg : decode M.2.1 pc = .ok (.if_icmp .ne off, 3)) (ht : (pc : Int) + off = (t : Int)) (hq : pc + 3 = q) (kt : ¬ x = y → J g d M Z t ls st σ) (kf : x = y → J g d M Z q ls st σ) : J g d M Z pc ls (.int y :: .int x :: st) σ := by
  subst hq
  intro p e R s m args below meth c H locs cells slots Q arr C hS hP hv K
  exact lv_icmp_ne C.1 C.2.1 hdg ht (fun z => kt z p e R s m args below meth c H locs cells slots Q arr C hS hP hv K) (fun z => kf z p e R s m args below meth c H locs cells slots Q arr C hS hP hv K)
theorem j_if_ne {x : Int32} {off : Int} {t : Nat} (hdg : decode M.2.1 pc = .ok (.ifCond .ne off, 3)) (ht : (pc : Int) + off = (t : Int)) (hq : pc + 3 = q) (kt : ¬ x = 0 → J g d M Z t ls st σ) (kf : x = 0 → J g d M Z q ls st σ) : J g d M Z pc ls (.int x :: st) σ := by
  subst hq
  intro p e R s m args below meth c H locs cells slots Q arr C hS hP hv K
  exact lv_if_ne C.1 C.2.1 hdg ht (fun z => kt z p e R s m args below meth c H locs cells slots Q arr C hS hP hv K) (fun z => kf z p e R s m args below meth c H locs cells slots Q arr C hS hP hv K)
theorem j_icmp_lt {x y : Int32} {off : Int} {t : Nat} (hdg : decode M.2.1 pc = .ok (.if_icmp .lt off, 3)) (ht : (pc : Int) + off = (t : Int)) (hq : pc + 3 = q) (kt : x < y → J g d M Z t ls st σ) (kf : ¬ x < y → J g d M Z q ls st σ) : J g d M Z pc ls (.int y :: .int x :: st) σ := by
  subst hq
  intro p e R s m args below meth c H locs cells slots Q arr C hS hP hv K
  exact lv_icmp_lt C.1 C.2.1 hdg ht (fun z => kt z p e R s m args below meth c H locs cells slots Q arr C hS hP hv K) (fun z => kf z p e R s m args below meth c H locs cells slots Q arr C hS hP hv K)
theorem j_if_lt {x : Int32} {off : Int} {t : Nat} (hdg : decode M.2.1 pc = .ok (.ifCond .lt off, 3)) (ht : (pc : Int) + off = (t : Int)) (hq : pc + 3 = q) (kt : x < 0 → J g d M Z t ls st σ) (kf : ¬ x < 0 → J g d M Z q ls st σ) : J g d M Z pc ls (.int x :: st) σ := by
  subst hq
  intro p e R s m args below meth c H locs cells slots Q arr C hS hP hv K
  exact lv_if_lt C.1 C.2.1 hdg ht (fun z => kt z p e R s m args below meth c H locs cells slots Q arr C hS hP hv K) (fun z => kf z p e R s m args below meth c H locs cells slots Q arr C hS hP hv K)
theorem j_icmp_ge {x y : Int32} {off : Int} {t : Nat} (hdg : decode M.2.1 pc = .ok (.if_icmp .ge off, 3)) (ht : (pc : Int) + off = (t : Int)) (hq : pc + 3 = q) (kt : y ≤ x → J g d M Z t ls st σ) (kf : ¬ y ≤ x → J g d M Z q ls st σ) : J g d M Z pc ls (.int y :: .int x :: st) σ := by
  subst hq
  intro p e R s m args below meth c H locs cells slots Q arr C hS hP hv K
  exact lv_icmp_ge C.1 C.2.1 hdg ht (fun z => kt z p e R s m args below meth c H locs cells slots Q arr C hS hP hv K) (fun z => kf z p e R s m args below meth c H locs cells slots Q arr C hS hP hv K)
theorem j_if_ge {x : Int32} {off : Int} {t : Nat} (hdg : decode M.2.1 pc = .ok (.ifCond .ge off, 3)) (ht : (pc : Int) + off = (t : Int)) (hq : pc + 3 = q) (kt : 0 ≤ x → J g d M Z t ls st σ) (kf : ¬ 0 ≤ x → J g d M Z q ls st σ) : J g d M Z pc ls (.int x :: st) σ := by
  subst hq
  intro p e R s m args below meth c H locs cells slots Q arr C hS hP hv K
  exact lv_if_ge C.1 C.2.1 hdg ht (fun z => kt z p e R s m args below meth c H locs cells slots Q arr C hS hP hv K) (fun z => kf z p e R s m args below meth c H locs cells slots Q arr C hS hP hv K)
theorem j_icmp_gt {x y : Int32} {off : Int} {t : Nat} (hdg : decode M.2.1 pc = .ok (.if_icmp .gt off, 3)) (ht : (pc : Int) + off = (t : Int)) (hq : pc + 3 = q) (kt : y < x → J g d M Z t ls st σ) (kf : ¬ y < x → J g d M Z q ls st σ) : J g d M Z pc ls (.int y :: .int x :: st) σ := by
  subst hq
  intro p e R s m args below meth c H locs cells slots Q arr C hS hP hv K
  exact lv_icmp_gt C.1 C.2.1 hdg ht (fun z => kt z p e R s m args below meth c H locs cells slots Q arr C hS hP hv K) (fun z => kf z p e R s m args below meth c H locs cells slots Q arr C hS hP hv K)
theorem j_if_gt {x : Int32} {off : Int} {t : Nat} (hdg : decode M.2.1 pc = .ok (.ifCond .gt off, 3)) (ht : (pc : Int) + off = (t : Int)) (hq : pc + 3 = q) (kt : 0 < x → J g d M Z t ls st σ) (kf : ¬ 0 < x → J g d M Z q ls st σ) : J g d M Z pc ls (.int x :: st) σ := by
  subst hq
  intro p e R s m args below meth c H locs cells slots Q arr C hS hP hv K
  exact lv_if_gt C.1 C.2.1 hdg ht (fun z => kt z p e R s m args below meth c H locs cells slots Q arr C hS hP hv K) (fun z => kf z p e R s m args below meth c H locs cells slots Q arr C hS hP hv K)
theorem j_icmp_le {x y : Int32} {off : Int} {t : Nat} (hdg : decode M.2.1 pc = .ok (.if_icmp .le off, 3)) (ht : (pc : Int) + off = (t : Int)) (hq : pc + 3 = q) (kt : x ≤ y → J g d M Z t ls st σ) (kf : ¬ x ≤ y → J g d M Z q ls st σ) : J g d M Z pc ls (.int y :: .int x :: st) σ := by
  subst hq
  intro p e R s m args below meth c H locs cells slots Q arr C hS hP hv K
  exact lv_icmp_le C.1 C.2.1 hdg ht (fun z => kt z p e R s m args below meth c H locs cells slots Q arr C hS hP hv K) (fun z => kf z p e R s m args below meth c H locs cells slots Q arr C hS hP hv K)
theorem j_if_le {x : Int32} {off : Int} {t : Nat} (hdg : decode M.2.1 pc = .ok (.ifCond .le off, 3)) (ht : (pc : Int) + off = (t : Int)) (hq : pc + 3 = q) (kt : x ≤ 0 → J g d M Z t ls st σ) (kf : ¬ x ≤ 0 → J g d M Z q ls st σ) : J g d M Z pc ls (.int x :: st) σ := by
  subst hq
  intro p e R s m args below meth c H locs cells slots Q arr C hS hP hv K
  exact lv_if_le C.1 C.2.1 hdg ht (fun z => kt z p e R s m args below meth c H locs cells slots Q arr C hS hP hv K) (fun z => kf z p e R s m args below meth c H locs cells slots Q arr C hS hP hv K)
end JR
