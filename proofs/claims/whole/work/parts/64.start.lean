theorem nl2 {a b : Nat} {l : List Value} : nlg (.ref a :: .ref b :: l) 2 := fun j v hj hv => by
  obtain rfl : j = 1 := by omega
  cases hv
  show (1 : Nat) ≠ 2
  decide
def gcF (cI cB cS cF cT : ClassId) (a : Nat) : ClassId := match tC[a]? with
  | some (0, _) => cI
  | some (1, _) => cB
  | some (2, _) => if a = 1 then cS else if a = 9 ∨ a = 32 then cF else cT
  | _ => cI
def mkA (aK aV : Nat → Nat) (tK tB b : Nat) (A : List Nat) (k : Nat) : Nat := if k < 87 then A.getD k 0 else if k < 110 then aK (k - 100) else if k < 120 then aV (k - 110) else if k = 120 then tK else if k = 121 then tB else b
def mkG (l : Launch) (D : va_G) (gc : Nat → ClassId) (aK aV : Nat → Nat) (tK tB b sz L : Nat) (xs : Nat → Int32) (A : List Nat) : GT := (l, D, gc, mkA aK aV tK tB b A, sz, L, xs)
theorem mkA_s {aK aV : Nat → Nat} {tK tB b : Nat} {A : List Nat} {i : Nat} (hi : i < 3) : mkA aK aV tK tB b A (100 + i) = aK i ∧ mkA aK aV tK tB b A (110 + i) = aV i := by
  unfold mkA
  rw [if_neg (by omega), if_pos (by omega), if_neg (by omega), if_neg (by omega), if_pos (by omega), show 100 + i - 100 = i by omega, show 110 + i - 110 = i by omega]
  exact ⟨rfl, rfl⟩
theorem vkS_cg {N : Nat} {len : List Nat} {byt : List (List Int32)} {a a' v v' : Nat → Nat} {A : Nat → Prop} {U : State} {H : Heap} (h : vk_S N len byt a v A U H) (ea : ∀ i, i < N → a' i = a i) (ev : ∀ i, i < N → v' i = v i) : vk_S N len byt a' v' A U H := by
  refine ⟨fun i hi => ?_, fun i j hi hj e => h.2 i j hi hj (by rw [← ea i hi, ← ea j hj]; exact e)⟩
  rw [ea i hi, ev i hi]
  exact h.1 i hi
theorem at_ref {D : va_G} {cl : List vw_C} {a n : Nat} {cA : ClassId} {f f' : Nat → Option Nat} {H : Heap} (h : va_at D cl (a, .inl (cA, n, .inr (.inr (.inr (.inr f))))) H) (e : ∀ i, i < n → f i = f' i) : va_at D cl (a, .inl (cA, n, .inr (.inr (.inr (.inr f'))))) H := by
  have h : H[a]? = some (arrV cA n (fun j => va_rf (f j))) := h
  show H[a]? = some (arrV cA n (fun j => va_rf (f' j)))
  rw [h]
  unfold arrV
  have e2 : (fun j : Fin n => va_rf (f j.val)) = fun j : Fin n => va_rf (f' j.val) := by
    funext j
    rw [e j.val j.isLt]
  rw [e2]
def stTm (i : Nat) : Term := if i = 0 then .string "ThirstPay$Reader" 22 else if i = 1 then .string "ThirstPay" 311 else .string "ThirstPay" 313
theorem st_str {s : State} {b : Nat} (hs : ∀ w ∈ flatC (Jvm.Cond.and given_1 narrow_1), w.before #[Value.ref b] s = true) {A : Nat → Prop} (hA : ∀ a : Nat, a < s.heap.size → ¬ A a) : ∃ adK adV : Nat → Nat, vk_S 3 sLen sByt adK adV A s s.heap ∧ ∀ i : Nat, i < 3 → (stTm i).eval #[Value.ref b] s none [] s = some (.ref (adK i)) := by
  refine vk_Sof (tm := stTm) ?_ ?_ ?_ ?_ ?_ ?_ ?_ hA
  · intro i hi
    rcases (show i = 0 ∨ i = 1 ∨ i = 2 by omega) with rfl | rfl | rfl
    · decide
    · decide
    · decide
  · intro i hi
    rcases (show i = 0 ∨ i = 1 ∨ i = 2 by omega) with rfl | rfl | rfl
    · exact hs (.exactly (.string "ThirstPay$Reader" 22) _) (by decide +kernel)
    · exact hs (.exactly (.string "ThirstPay" 311) _) (by decide +kernel)
    · exact hs (.exactly (.string "ThirstPay" 313) _) (by decide +kernel)
  · intro i hi
    rcases (show i = 0 ∨ i = 1 ∨ i = 2 by omega) with rfl | rfl | rfl
    · exact hs (.eq (.field (.string "ThirstPay$Reader" 22) "java/lang/String" "coder" "B") (.int 0)) (by decide +kernel)
    · exact hs (.eq (.field (.string "ThirstPay" 311) "java/lang/String" "coder" "B") (.int 0)) (by decide +kernel)
    · exact hs (.eq (.field (.string "ThirstPay" 313) "java/lang/String" "coder" "B") (.int 0)) (by decide +kernel)
  · intro i hi
    rcases (show i = 0 ∨ i = 1 ∨ i = 2 by omega) with rfl | rfl | rfl
    · exact hs (.arrayOf (.field (.string "ThirstPay$Reader" 22) "java/lang/String" "value" "[B") .byte) (by decide +kernel)
    · exact hs (.arrayOf (.field (.string "ThirstPay" 311) "java/lang/String" "value" "[B") .byte) (by decide +kernel)
    · exact hs (.arrayOf (.field (.string "ThirstPay" 313) "java/lang/String" "value" "[B") .byte) (by decide +kernel)
  · intro i hi
    rcases (show i = 0 ∨ i = 1 ∨ i = 2 by omega) with rfl | rfl | rfl
    · exact hs (.eq (.length (.field (.string "ThirstPay$Reader" 22) "java/lang/String" "value" "[B")) (.int 0)) (by decide +kernel)
    · exact hs (.eq (.length (.field (.string "ThirstPay" 311) "java/lang/String" "value" "[B")) (.int 3)) (by decide +kernel)
    · exact hs (.eq (.length (.field (.string "ThirstPay" 313) "java/lang/String" "value" "[B")) (.int 3)) (by decide +kernel)
  · intro i hi j hj
    rcases (show i = 0 ∨ i = 1 ∨ i = 2 by omega) with rfl | rfl | rfl
    · exact absurd hj (Nat.not_lt_zero j)
    · have hj : j < 3 := hj
      rcases (show j = 0 ∨ j = 1 ∨ j = 2 by omega) with rfl | rfl | rfl
      · exact hs (.eq (.elem (.field (.string "ThirstPay" 311) "java/lang/String" "value" "[B") (.int 0)) (.int 103)) (by decide +kernel)
      · exact hs (.eq (.elem (.field (.string "ThirstPay" 311) "java/lang/String" "value" "[B") (.int 1)) (.int 100)) (by decide +kernel)
      · exact hs (.eq (.elem (.field (.string "ThirstPay" 311) "java/lang/String" "value" "[B") (.int 2)) (.int 104)) (by decide +kernel)
    · have hj : j < 3 := hj
      rcases (show j = 0 ∨ j = 1 ∨ j = 2 by omega) with rfl | rfl | rfl
      · exact hs (.eq (.elem (.field (.string "ThirstPay" 313) "java/lang/String" "value" "[B") (.int 0)) (.int 112)) (by decide +kernel)
      · exact hs (.eq (.elem (.field (.string "ThirstPay" 313) "java/lang/String" "value" "[B") (.int 1)) (.int 100)) (by decide +kernel)
      · exact hs (.eq (.elem (.field (.string "ThirstPay" 313) "java/lang/String" "value" "[B") (.int 2)) (.int 115)) (by decide +kernel)
  · intro i j hi hj hij
    rcases (show i = 0 ∨ i = 1 ∨ i = 2 by omega) with rfl | rfl | rfl <;> rcases (show j = 0 ∨ j = 1 ∨ j = 2 by omega) with rfl | rfl | rfl
    · exact absurd rfl hij
    · exact .inl (hs (.not (.eq (.string "ThirstPay$Reader" 22) (.string "ThirstPay" 311))) (by decide +kernel))
    · exact .inl (hs (.not (.eq (.string "ThirstPay$Reader" 22) (.string "ThirstPay" 313))) (by decide +kernel))
    · exact .inr (hs (.not (.eq (.string "ThirstPay$Reader" 22) (.string "ThirstPay" 311))) (by decide +kernel))
    · exact absurd rfl hij
    · exact .inl (hs (.not (.eq (.string "ThirstPay" 311) (.string "ThirstPay" 313))) (by decide +kernel))
    · exact .inr (hs (.not (.eq (.string "ThirstPay$Reader" 22) (.string "ThirstPay" 313))) (by decide +kernel))
    · exact .inr (hs (.not (.eq (.string "ThirstPay" 311) (.string "ThirstPay" 313))) (by decide +kernel))
    · exact absurd rfl hij
theorem st_kab {s : State} {b : Nat} (hs : ∀ w ∈ flatC (Jvm.Cond.and given_1 narrow_1), w.before #[Value.ref b] s = true) {A : Nat → Prop} (hA : ∀ a : Nat, a < s.heap.size → ¬ A a) : ∃ t : Nat, (Term.static "ThirstPay" "KIND_ABOVE" "[I").eval #[Value.ref b] s none [] s = some (.ref t) ∧ va_T .int t 7 (fun j => .int (kab.getD j 0)) A s s.heap := by
  refine va_Tof (by decide) (hs (.arrayOf (.static "ThirstPay" "KIND_ABOVE" "[I") .int) (by decide +kernel)) (va_eqt (hs (.eq (.length (.static "ThirstPay" "KIND_ABOVE" "[I")) (.int 7)) (by decide +kernel))) (fun j hj => ?_) hA
  rcases (show j = 0 ∨ j = 1 ∨ j = 2 ∨ j = 3 ∨ j = 4 ∨ j = 5 ∨ j = 6 by omega) with rfl | rfl | rfl | rfl | rfl | rfl | rfl
  · exact va_eqt (hs (.eq (.elem (.static "ThirstPay" "KIND_ABOVE" "[I") (.int 0)) (.int (-1))) (by decide +kernel))
  · exact va_eqt (hs (.eq (.elem (.static "ThirstPay" "KIND_ABOVE" "[I") (.int 1)) (.int 0)) (by decide +kernel))
  · exact va_eqt (hs (.eq (.elem (.static "ThirstPay" "KIND_ABOVE" "[I") (.int 2)) (.int 0)) (by decide +kernel))
  · exact va_eqt (hs (.eq (.elem (.static "ThirstPay" "KIND_ABOVE" "[I") (.int 3)) (.int 0)) (by decide +kernel))
  · exact va_eqt (hs (.eq (.elem (.static "ThirstPay" "KIND_ABOVE" "[I") (.int 4)) (.int 1)) (by decide +kernel))
  · exact va_eqt (hs (.eq (.elem (.static "ThirstPay" "KIND_ABOVE" "[I") (.int 5)) (.int 2)) (by decide +kernel))
  · exact va_eqt (hs (.eq (.elem (.static "ThirstPay" "KIND_ABOVE" "[I") (.int 6)) (.int 0)) (by decide +kernel))
theorem st_bdy {s : State} {b : Nat} (hs : ∀ w ∈ flatC (Jvm.Cond.and given_1 narrow_1), w.before #[Value.ref b] s = true) {A : Nat → Prop} (hA : ∀ a : Nat, a < s.heap.size → ¬ A a) : ∃ t : Nat, (Term.static "ThirstPay$Voices" "BODIES" "[I").eval #[Value.ref b] s none [] s = some (.ref t) ∧ va_T .int t 28 (fun j => .int (bdy.getD j 0)) A s s.heap := by
  refine va_Tof (by decide) (hs (.arrayOf (.static "ThirstPay$Voices" "BODIES" "[I") .int) (by decide +kernel)) (va_eqt (hs (.eq (.length (.static "ThirstPay$Voices" "BODIES" "[I")) (.int 28)) (by decide +kernel))) (fun j hj => ?_) hA
  rcases (show j = 0 ∨ j = 1 ∨ j = 2 ∨ j = 3 ∨ j = 4 ∨ j = 5 ∨ j = 6 ∨ j = 7 ∨ j = 8 ∨ j = 9 ∨ j = 10 ∨ j = 11 ∨ j = 12 ∨ j = 13 ∨ j = 14 ∨ j = 15 ∨ j = 16 ∨ j = 17 ∨ j = 18 ∨ j = 19 ∨ j = 20 ∨ j = 21 ∨ j = 22 ∨ j = 23 ∨ j = 24 ∨ j = 25 ∨ j = 26 ∨ j = 27 by omega) with rfl | rfl | rfl | rfl | rfl | rfl | rfl | rfl | rfl | rfl | rfl | rfl | rfl | rfl | rfl | rfl | rfl | rfl | rfl | rfl | rfl | rfl | rfl | rfl | rfl | rfl | rfl | rfl
  · exact va_eqt (hs (.eq (.elem (.static "ThirstPay$Voices" "BODIES" "[I") (.int 0)) (.int 10)) (by decide +kernel))
  · exact va_eqt (hs (.eq (.elem (.static "ThirstPay$Voices" "BODIES" "[I") (.int 1)) (.int 11)) (by decide +kernel))
  · exact va_eqt (hs (.eq (.elem (.static "ThirstPay$Voices" "BODIES" "[I") (.int 2)) (.int 12)) (by decide +kernel))
  · exact va_eqt (hs (.eq (.elem (.static "ThirstPay$Voices" "BODIES" "[I") (.int 3)) (.int 13)) (by decide +kernel))
  · exact va_eqt (hs (.eq (.elem (.static "ThirstPay$Voices" "BODIES" "[I") (.int 4)) (.int 20)) (by decide +kernel))
  · exact va_eqt (hs (.eq (.elem (.static "ThirstPay$Voices" "BODIES" "[I") (.int 5)) (.int 0)) (by decide +kernel))
  · exact va_eqt (hs (.eq (.elem (.static "ThirstPay$Voices" "BODIES" "[I") (.int 6)) (.int 0)) (by decide +kernel))
  · exact va_eqt (hs (.eq (.elem (.static "ThirstPay$Voices" "BODIES" "[I") (.int 7)) (.int 21)) (by decide +kernel))
  · exact va_eqt (hs (.eq (.elem (.static "ThirstPay$Voices" "BODIES" "[I") (.int 8)) (.int 0)) (by decide +kernel))
  · exact va_eqt (hs (.eq (.elem (.static "ThirstPay$Voices" "BODIES" "[I") (.int 9)) (.int 30)) (by decide +kernel))
  · exact va_eqt (hs (.eq (.elem (.static "ThirstPay$Voices" "BODIES" "[I") (.int 10)) (.int 0)) (by decide +kernel))
  · exact va_eqt (hs (.eq (.elem (.static "ThirstPay$Voices" "BODIES" "[I") (.int 11)) (.int 0)) (by decide +kernel))
  · exact va_eqt (hs (.eq (.elem (.static "ThirstPay$Voices" "BODIES" "[I") (.int 12)) (.int 0)) (by decide +kernel))
  · exact va_eqt (hs (.eq (.elem (.static "ThirstPay$Voices" "BODIES" "[I") (.int 13)) (.int 0)) (by decide +kernel))
  · exact va_eqt (hs (.eq (.elem (.static "ThirstPay$Voices" "BODIES" "[I") (.int 14)) (.int 40)) (by decide +kernel))
  · exact va_eqt (hs (.eq (.elem (.static "ThirstPay$Voices" "BODIES" "[I") (.int 15)) (.int 0)) (by decide +kernel))
  · exact va_eqt (hs (.eq (.elem (.static "ThirstPay$Voices" "BODIES" "[I") (.int 16)) (.int 50)) (by decide +kernel))
  · exact va_eqt (hs (.eq (.elem (.static "ThirstPay$Voices" "BODIES" "[I") (.int 17)) (.int 0)) (by decide +kernel))
  · exact va_eqt (hs (.eq (.elem (.static "ThirstPay$Voices" "BODIES" "[I") (.int 18)) (.int 51)) (by decide +kernel))
  · exact va_eqt (hs (.eq (.elem (.static "ThirstPay$Voices" "BODIES" "[I") (.int 19)) (.int 0)) (by decide +kernel))
  · exact va_eqt (hs (.eq (.elem (.static "ThirstPay$Voices" "BODIES" "[I") (.int 20)) (.int 0)) (by decide +kernel))
  · exact va_eqt (hs (.eq (.elem (.static "ThirstPay$Voices" "BODIES" "[I") (.int 21)) (.int 60)) (by decide +kernel))
  · exact va_eqt (hs (.eq (.elem (.static "ThirstPay$Voices" "BODIES" "[I") (.int 22)) (.int 0)) (by decide +kernel))
  · exact va_eqt (hs (.eq (.elem (.static "ThirstPay$Voices" "BODIES" "[I") (.int 23)) (.int 0)) (by decide +kernel))
  · exact va_eqt (hs (.eq (.elem (.static "ThirstPay$Voices" "BODIES" "[I") (.int 24)) (.int 70)) (by decide +kernel))
  · exact va_eqt (hs (.eq (.elem (.static "ThirstPay$Voices" "BODIES" "[I") (.int 25)) (.int 71)) (by decide +kernel))
  · exact va_eqt (hs (.eq (.elem (.static "ThirstPay$Voices" "BODIES" "[I") (.int 26)) (.int 0)) (by decide +kernel))
  · exact va_eqt (hs (.eq (.elem (.static "ThirstPay$Voices" "BODIES" "[I") (.int 27)) (.int 0)) (by decide +kernel))
theorem st_arrI {s : State} {args : Array Value} (hts : ∀ w ∈ lw_tbl, w.before args s = true) : ∃ cA, ArrOfT s cA .int ∧ va_RA s cA .int := by
  have h := Cond.arrayClass_spec (hts (.arrayClass .int) (List.mem_of_getElem? (i := 134) (by decide +kernel)))
  obtain ⟨cA, kA, comp, h1, h2, h3⟩ := h
  exact ⟨cA, fun N z => ⟨(fun k h => by cases h), kA, h2, comp, h3⟩, h1⟩
theorem st_arrB {s : State} {args : Array Value} (hts : ∀ w ∈ lw_tbl, w.before args s = true) : ∃ cA, ArrOfT s cA .byte ∧ va_RA s cA .byte := by
  have h := Cond.arrayClass_spec (hts (.arrayClass .byte) (List.mem_of_getElem? (i := 135) (by decide +kernel)))
  obtain ⟨cA, kA, comp, h1, h2, h3⟩ := h
  exact ⟨cA, fun N z => ⟨(fun k h => by cases h), kA, h2, comp, h3⟩, h1⟩
theorem st_arrQ {s : State} {args : Array Value} {C : String} (h : (Cond.arrayOver (.object C)).before args s = true) : ∃ cA, ArrOfT s cA (.object C) ∧ va_RA s cA (.object C) := by
  obtain ⟨comp, cA, kA, hcomp, hidx, hkA, hkindA, hnameA⟩ := Cond.arrayOver_spec h
  exact ⟨cA, fun N z => ⟨(fun k h => by cases h), kA, hkA, comp, hkindA⟩, kA, comp, hkA, hkindA, hcomp, hnameA⟩
theorem st_cls {s : State} {args : Array Value} (hts : ∀ w ∈ lw_tbl, w.before args s = true) : ∃ D : va_G, ∀ (c : Nat) (q : vw_C), clsL[c]? = some q → u_Kn s q.1 q.2.1 q.2.2 (D.1 c) (D.2 c) := by
  have hin : ∀ (c : Nat) (q : vw_C), clsL[c]? = some q → ∀ w ∈ u_ws q.1 q.2.1 q.2.2, w ∈ lw_tbl := fun c q h w hw => (List.mem_filter.mp (cls_in c q h w hw)).1
  have h : ∀ c : Nat, ∃ z : ClassId × (Nat → Nat), ∀ q, clsL[c]? = some q → u_Kn s q.1 q.2.1 q.2.2 z.1 z.2 := by
    intro c
    match c with
    | 0 =>
      obtain ⟨cC, iS, h⟩ := u_known (C := RX0) (T := TX0) (N := 6) (n := 6) hts (hin 0 _ rfl) (hts (.instantiable RX0 6) (List.mem_of_getElem? (i := 98) (by decide +kernel)))
      exact ⟨(cC, iS), fun q hq => by cases hq; exact h⟩
    | 1 =>
      obtain ⟨cC, iS, h⟩ := u_known (C := RX1) (T := TX1) (N := 5) (n := 5) hts (hin 1 _ rfl) (hts (.instantiable RX1 5) (List.mem_of_getElem? (i := 242) (by decide +kernel)))
      exact ⟨(cC, iS), fun q hq => by cases hq; exact h⟩
    | 2 =>
      obtain ⟨cC, iS, h⟩ := u_known (C := RX2) (T := TX2) (N := 3) (n := 3) hts (hin 2 _ rfl) (hts (.instantiable RX2 3) (List.mem_of_getElem? (i := 297) (by decide +kernel)))
      exact ⟨(cC, iS), fun q hq => by cases hq; exact h⟩
    | 3 =>
      obtain ⟨cC, iS, h⟩ := u_known (C := RX3) (T := TX3) (N := 4) (n := 4) hts (hin 3 _ rfl) (hts (.instantiable RX3 4) (List.mem_of_getElem? (i := 136) (by decide +kernel)))
      exact ⟨(cC, iS), fun q hq => by cases hq; exact h⟩
    | 4 =>
      obtain ⟨cC, iS, h⟩ := u_known (C := RX4) (T := TX4) (N := 6) (n := 6) hts (hin 4 _ rfl) (hts (.instantiable RX4 6) (List.mem_of_getElem? (i := 217) (by decide +kernel)))
      exact ⟨(cC, iS), fun q hq => by cases hq; exact h⟩
    | 5 =>
      obtain ⟨cC, iS, h⟩ := u_known (C := RX5) (T := TX5) (N := 6) (n := 6) hts (hin 5 _ rfl) (hts (.instantiable RX5 6) (List.mem_of_getElem? (i := 268) (by decide +kernel)))
      exact ⟨(cC, iS), fun q hq => by cases hq; exact h⟩
    | 6 =>
      obtain ⟨cC, iS, h⟩ := u_known (C := RX6) (T := TX6) (N := 14) (n := 14) hts (hin 6 _ rfl) (hts (.instantiable RX6 14) (List.mem_of_getElem? (i := 89) (by decide +kernel)))
      exact ⟨(cC, iS), fun q hq => by cases hq; exact h⟩
    | 7 =>
      obtain ⟨cC, iS, h⟩ := u_known (C := RX7) (T := TX7) (N := 8) (n := 8) hts (hin 7 _ rfl) (hts (.instantiable RX7 8) (List.mem_of_getElem? (i := 81) (by decide +kernel)))
      exact ⟨(cC, iS), fun q hq => by cases hq; exact h⟩
    | 8 =>
      obtain ⟨cC, iS, h⟩ := u_known (C := RX8) (T := TX8) (N := 25) (n := 25) hts (hin 8 _ rfl) (hts (.instantiable RX8 25) (List.mem_of_getElem? (i := 897) (by decide +kernel)))
      exact ⟨(cC, iS), fun q hq => by cases hq; exact h⟩
    | c + 9 => exact ⟨(0, fun _ => 0), fun q hq => by simp [clsL] at hq⟩
  obtain ⟨f, hf⟩ := Classical.axiomOfChoice h
  exact ⟨(fun c => (f c).1, fun c => (f c).2), fun c q hq => hf c q hq⟩
