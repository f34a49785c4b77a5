section JN
variable {g : GT} {d d' : Nat} {M M' : MM} {Z Z' : Value → S_ → Prop} {pc q : Nat} {ls st rest : List Value} {σ τ1 : S_}
-- ints that are known as nI n
theorem j_iaddN {a b : Nat} (hdg : decode M.2.1 pc = .ok (.iadd, 1)) (hq : pc + 1 = q) (h : J g d M Z q ls (.int (nI (a + b)) :: st) σ) : J g d M Z pc ls (.int (nI b) :: .int (nI a) :: st) σ := j_iadd hdg hq (by rw [nI_add]; exact h)
theorem j_imulN {a b : Nat} (hdg : decode M.2.1 pc = .ok (.imul, 1)) (hq : pc + 1 = q) (h : J g d M Z q ls (.int (nI (a * b)) :: st) σ) : J g d M Z pc ls (.int (nI b) :: .int (nI a) :: st) σ := j_imul hdg hq (by rw [pk_mul]; exact h)
theorem j_isubN {a b : Nat} (hab : b ≤ a) (hdg : decode M.2.1 pc = .ok (.isub, 1)) (hq : pc + 1 = q) (h : J g d M Z q ls (.int (nI (a - b)) :: st) σ) : J g d M Z pc ls (.int (nI b) :: .int (nI a) :: st) σ := j_isub hdg hq (by rw [pk_sub hab]; exact h)
theorem tC_sz {a : Nat} {x : Nat × Nat} (h : tC[a]? = some x) : x.2 < 2 ^ 31 := by
  have h1 : ∀ y ∈ tC, y.2 < 2 ^ 31 := by decide +kernel
  exact h1 x (List.mem_of_getElem? h)
theorem j_ialdN {a n k : Nat} (ha : tC[a]? = some (0, n)) (hk : k < n) (hdg : decode M.2.1 pc = .ok (.iaload, 1)) (hq : pc + 1 = q) (h : J g d M Z q ls (.int (σ a k) :: st) σ) : J g d M Z pc ls (.int (nI k) :: .ref a :: st) σ := by
  have h31 := tC_sz ha
  exact j_iald ha (vp_in_nI hk h31) hdg hq (by rw [nI_clamp (Nat.lt_trans hk h31)]; exact h)
theorem j_ialdV {a n k : Nat} {v : Int32} (ha : tC[a]? = some (0, n)) (hk : k < n) (hv0 : σ a k = v) (hdg : decode M.2.1 pc = .ok (.iaload, 1)) (hq : pc + 1 = q) (h : J g d M Z q ls (.int v :: st) σ) : J g d M Z pc ls (.int (nI k) :: .ref a :: st) σ := j_ialdN ha hk hdg hq (by rw [hv0]; exact h)
theorem j_baldN {a n k : Nat} (ha : tC[a]? = some (1, n)) (hk : k < n) (hdg : decode M.2.1 pc = .ok (.baload, 1)) (hq : pc + 1 = q) (h : J g d M Z q ls (.int (σ a k).toInt8.toInt32 :: st) σ) : J g d M Z pc ls (.int (nI k) :: .ref a :: st) σ := by
  have h31 := tC_sz ha
  exact j_bald ha (vp_in_nI hk h31) hdg hq (by rw [nI_clamp (Nat.lt_trans hk h31)]; exact h)
theorem j_iastN {a n k : Nat} {x : Int32} (ha : tC[a]? = some (0, n)) (hk : k < n) (hdg : decode M.2.1 pc = .ok (.iastore, 1)) (hq : pc + 1 = q) (h : J g d M Z q ls st (up σ a k x)) : J g d M Z pc ls (.int x :: .int (nI k) :: .ref a :: st) σ := by
  have h31 := tC_sz ha
  exact j_iast ha (vp_in_nI hk h31) hdg hq (by rw [nI_clamp (Nat.lt_trans hk h31)]; exact h)
theorem j_bastN {a n k : Nat} {x : Int32} (ha : tC[a]? = some (1, n)) (hk : k < n) (hdg : decode M.2.1 pc = .ok (.bastore, 1)) (hq : pc + 1 = q) (h : J g d M Z q ls st (up σ a k x)) : J g d M Z pc ls (.int x :: .int (nI k) :: .ref a :: st) σ := by
  have h31 := tC_sz ha
  exact j_bast ha (vp_in_nI hk h31) hdg hq (by rw [nI_clamp (Nat.lt_trans hk h31)]; exact h)
theorem j_aaldN {a n k r : Nat} (ha : tC[a]? = some (2, n)) (hk : k < n) (hr : rf a k = r) (hdg : decode M.2.1 pc = .ok (.aaload, 1)) (hq : pc + 1 = q) (h : J g d M Z q ls (.ref r :: st) σ) : J g d M Z pc ls (.int (nI k) :: .ref a :: st) σ := by
  have h31 := tC_sz ha
  exact j_aald ha (vp_in_nI hk h31) (by rw [nI_clamp (Nat.lt_trans hk h31)]; exact hr) hdg hq h
theorem j_saldN {a k : Nat} (ha : a < 3) (hk : k < stL g a) (hL : stL g a < 2 ^ 31) (hdg : decode M.2.1 pc = .ok (.iaload, 1)) (hq : pc + 1 = q) (h : J g d M Z q ls (.int (stF g a k) :: st) σ) : J g d M Z pc ls (.int (nI k) :: .ref (120 + a) :: st) σ :=
  j_sald ha (vp_in_nI hk hL) hdg hq (by rw [nI_clamp (Nat.lt_trans hk hL)]; exact h)
theorem j_getIV {a ci k idx : Nat} {v : Int32} (hf : FS M.1.cls idx ci k) (ho : tC[a]? = some (3, ci)) (ht : (fT ci).getD k 0 = 0) (hv0 : σ a k = v) (hdg : decode M.2.1 pc = .ok (.getfield idx, 3)) (hq : pc + 3 = q) (h : J g d M Z q ls (.int v :: st) σ) : J g d M Z pc ls (.ref a :: st) σ := j_getI hf ho ht hdg hq (by rw [hv0]; exact h)
-- truth values
def bI (p : Prop) [Decidable p] : Int32 := if p then 1 else 0
theorem bI_t {p : Prop} {i : Decidable p} (h : p) : @bI p i = 1 := if_pos h
theorem bI_f {p : Prop} {i : Decidable p} (h : ¬ p) : @bI p i = 0 := if_neg h
theorem bI_01 {p : Prop} {i : Decidable p} : @bI p i = 0 ∨ @bI p i = 1 := by unfold bI; split <;> simp
theorem j_ifeqB {p : Prop} {i : Decidable p} {off : Int} {t : Nat} (hdg : decode M.2.1 pc = .ok (.ifCond .eq off, 3)) (ht : (pc : Int) + off = (t : Int)) (hq : pc + 3 = q) (kf : p → J g d M Z q ls st σ) (kt : ¬ p → J g d M Z t ls st σ) : J g d M Z pc ls (.int (@bI p i) :: st) σ := by
  by_cases h : p
  · rw [bI_t h]; exact j_if_eq hdg ht hq (fun z => absurd z (by decide)) (fun _ => kf h)
  · rw [bI_f h]; exact j_if_eq hdg ht hq (fun _ => kt h) (fun z => absurd rfl z)
theorem j_ifneB {p : Prop} {i : Decidable p} {off : Int} {t : Nat} (hdg : decode M.2.1 pc = .ok (.ifCond .ne off, 3)) (ht : (pc : Int) + off = (t : Int)) (hq : pc + 3 = q) (kt : p → J g d M Z t ls st σ) (kf : ¬ p → J g d M Z q ls st σ) : J g d M Z pc ls (.int (@bI p i) :: st) σ := by
  by_cases h : p
  · rw [bI_t h]; exact j_if_ne hdg ht hq (fun _ => kt h) (fun z => absurd z (by decide))
  · rw [bI_f h]; exact j_if_ne hdg ht hq (fun z => absurd rfl z) (fun _ => kf h)
theorem j_iretB {p : Prop} {i : Decidable p} (hdg : decode M.2.1 pc = .ok (.ireturn, 1)) (hr : M.2.2.2 = some .boolean) (hz : Z (.int (@bI p i)) σ) : J g d M Z pc ls [.int (@bI p i)] σ := j_iretz hdg hr bI_01 hz
theorem nlg0 {ls : List Value} : nlg ls 0 := fun j v h => absurd h (by omega)
theorem nlg1 {ls : List Value} {i : Nat} {v : Value} (h1 : ls[i]? = some v) (h2 : v.category = 1) : nlg ls (i + 1) := by
  intro j w hj hw
  have : j = i := by omega
  subst this
  rw [h1] at hw
  cases hw
  omega

theorem nI_le_iff {a b : Nat} (ha : a < 2 ^ 31) (hb : b < 2 ^ 31) : nI a ≤ nI b ↔ a ≤ b := by
  rw [Int32.le_iff_toInt_le, nI_toInt ha, nI_toInt hb]; omega
theorem nI_lt_iff {a b : Nat} (ha : a < 2 ^ 31) (hb : b < 2 ^ 31) : nI a < nI b ↔ a < b := by
  rw [Int32.lt_iff_toInt_lt, nI_toInt ha, nI_toInt hb]; omega

theorem j_icmp_eqN {a b : Nat} {off : Int} {t : Nat} (ha : a < 2 ^ 31) (hb : b < 2 ^ 31) (hdg : decode M.2.1 pc = .ok (.if_icmp .eq off, 3)) (ht : (pc : Int) + off = (t : Int)) (hq : pc + 3 = q) (kt : a = b → J g d M Z t ls st σ) (kf : ¬ a = b → J g d M Z q ls st σ) : J g d M Z pc ls (.int (nI b) :: .int (nI a) :: st) σ := j_icmp_eq hdg ht hq (fun z => kt ((nI_eq ha hb).mp z)) (fun z => kf (fun e => z (by rw [e])))
theorem j_if_eqN {a : Nat} {off : Int} {t : Nat} (ha : a < 2 ^ 31) (hdg : decode M.2.1 pc = .ok (.ifCond .eq off, 3)) (ht : (pc : Int) + off = (t : Int)) (hq : pc + 3 = q) (kt : a = 0 → J g d M Z t ls st σ) (kf : ¬ a = 0 → J g d M Z q ls st σ) : J g d M Z pc ls (.int (nI a) :: st) σ := by
  have hb : 0 < 2 ^ 31 := by decide
  exact j_if_eq hdg ht hq (fun z => kt ((nI_eq (b := 0) ha hb).mp z)) (fun z => kf (fun e => z (by rw [e]; rfl)))
theorem j_icmp_neN {a b : Nat} {off : Int} {t : Nat} (ha : a < 2 ^ 31) (hb : b < 2 ^ 31) (hdg : decode M.2.1 pc = .ok (.if_icmp .ne off, 3)) (ht : (pc : Int) + off = (t : Int)) (hq : pc + 3 = q) (kt : ¬ a = b → J g d M Z t ls st σ) (kf : a = b → J g d M Z q ls st σ) : J g d M Z pc ls (.int (nI b) :: .int (nI a) :: st) σ := j_icmp_ne hdg ht hq (fun z => kt (fun e => z (by rw [e]))) (fun z => kf ((nI_eq ha hb).mp z))
theorem j_if_neN {a : Nat} {off : Int} {t : Nat} (ha : a < 2 ^ 31) (hdg : decode M.2.1 pc = .ok (.ifCond .ne off, 3)) (ht : (pc : Int) + off = (t : Int)) (hq : pc + 3 = q) (kt : ¬ a = 0 → J g d M Z t ls st σ) (kf : a = 0 → J g d M Z q ls st σ) : J g d M Z pc ls (.int (nI a) :: st) σ := by
  have hb : 0 < 2 ^ 31 := by decide
  exact j_if_ne hdg ht hq (fun z => kt (fun e => z (by rw [e]; rfl))) (fun z => kf ((nI_eq (b := 0) ha hb).mp z))
theorem j_icmp_ltN {a b : Nat} {off : Int} {t : Nat} (ha : a < 2 ^ 31) (hb : b < 2 ^ 31) (hdg : decode M.2.1 pc = .ok (.if_icmp .lt off, 3)) (ht : (pc : Int) + off = (t : Int)) (hq : pc + 3 = q) (kt : a < b → J g d M Z t ls st σ) (kf : b ≤ a → J g d M Z q ls st σ) : J g d M Z pc ls (.int (nI b) :: .int (nI a) :: st) σ := j_icmp_lt hdg ht hq (fun z => kt ((nI_lt_iff ha hb).mp z)) (fun z => kf (by have := mt (nI_lt_iff ha hb).mpr z; omega))
theorem j_if_ltN {a : Nat} {off : Int} {t : Nat} (ha : a < 2 ^ 31) (hdg : decode M.2.1 pc = .ok (.ifCond .lt off, 3)) (ht : (pc : Int) + off = (t : Int)) (hq : pc + 3 = q) (kt : a < 0 → J g d M Z t ls st σ) (kf : 0 ≤ a → J g d M Z q ls st σ) : J g d M Z pc ls (.int (nI a) :: st) σ := by
  have hb : 0 < 2 ^ 31 := by decide
  exact j_if_lt hdg ht hq (fun z => kt ((nI_lt_iff (b := 0) ha hb).mp z)) (fun z => kf (by have := mt (nI_lt_iff (b := 0) ha hb).mpr z; omega))
theorem j_icmp_geN {a b : Nat} {off : Int} {t : Nat} (ha : a < 2 ^ 31) (hb : b < 2 ^ 31) (hdg : decode M.2.1 pc = .ok (.if_icmp .ge off, 3)) (ht : (pc : Int) + off = (t : Int)) (hq : pc + 3 = q) (kt : b ≤ a → J g d M Z t ls st σ) (kf : a < b → J g d M Z q ls st σ) : J g d M Z pc ls (.int (nI b) :: .int (nI a) :: st) σ := j_icmp_ge hdg ht hq (fun z => kt ((nI_le_iff hb ha).mp z)) (fun z => kf (by have := mt (nI_le_iff hb ha).mpr z; omega))
theorem j_if_geN {a : Nat} {off : Int} {t : Nat} (ha : a < 2 ^ 31) (hdg : decode M.2.1 pc = .ok (.ifCond .ge off, 3)) (ht : (pc : Int) + off = (t : Int)) (hq : pc + 3 = q) (kt : 0 ≤ a → J g d M Z t ls st σ) (kf : a < 0 → J g d M Z q ls st σ) : J g d M Z pc ls (.int (nI a) :: st) σ := by
  have hb : 0 < 2 ^ 31 := by decide
  exact j_if_ge hdg ht hq (fun z => kt ((nI_le_iff (a := 0) hb ha).mp z)) (fun z => kf (by have := mt (nI_le_iff (a := 0) hb ha).mpr z; omega))
theorem j_icmp_gtN {a b : Nat} {off : Int} {t : Nat} (ha : a < 2 ^ 31) (hb : b < 2 ^ 31) (hdg : decode M.2.1 pc = .ok (.if_icmp .gt off, 3)) (ht : (pc : Int) + off = (t : Int)) (hq : pc + 3 = q) (kt : b < a → J g d M Z t ls st σ) (kf : a ≤ b → J g d M Z q ls st σ) : J g d M Z pc ls (.int (nI b) :: .int (nI a) :: st) σ := j_icmp_gt hdg ht hq (fun z => kt ((nI_lt_iff hb ha).mp z)) (fun z => kf (by have := mt (nI_lt_iff hb ha).mpr z; omega))
theorem j_if_gtN {a : Nat} {off : Int} {t : Nat} (ha : a < 2 ^ 31) (hdg : decode M.2.1 pc = .ok (.ifCond .gt off, 3)) (ht : (pc : Int) + off = (t : Int)) (hq : pc + 3 = q) (kt : 0 < a → J g d M Z t ls st σ) (kf : a ≤ 0 → J g d M Z q ls st σ) : J g d M Z pc ls (.int (nI a) :: st) σ := by
  have hb : 0 < 2 ^ 31 := by decide
  exact j_if_gt hdg ht hq (fun z => kt ((nI_lt_iff (a := 0) hb ha).mp z)) (fun z => kf (by have := mt (nI_lt_iff (a := 0) hb ha).mpr z; omega))
theorem j_icmp_leN {a b : Nat} {off : Int} {t : Nat} (ha : a < 2 ^ 31) (hb : b < 2 ^ 31) (hdg : decode M.2.1 pc = .ok (.if_icmp .le off, 3)) (ht : (pc : Int) + off = (t : Int)) (hq : pc + 3 = q) (kt : a ≤ b → J g d M Z t ls st σ) (kf : b < a → J g d M Z q ls st σ) : J g d M Z pc ls (.int (nI b) :: .int (nI a) :: st) σ := j_icmp_le hdg ht hq (fun z => kt ((nI_le_iff ha hb).mp z)) (fun z => kf (by have := mt (nI_le_iff ha hb).mpr z; omega))
theorem j_if_leN {a : Nat} {off : Int} {t : Nat} (ha : a < 2 ^ 31) (hdg : decode M.2.1 pc = .ok (.ifCond .le off, 3)) (ht : (pc : Int) + off = (t : Int)) (hq : pc + 3 = q) (kt : a ≤ 0 → J g d M Z t ls st σ) (kf : 0 < a → J g d M Z q ls st σ) : J g d M Z pc ls (.int (nI a) :: st) σ := by
  have hb : 0 < 2 ^ 31 := by decide
  exact j_if_le hdg ht hq (fun z => kt ((nI_le_iff (b := 0) ha hb).mp z)) (fun z => kf (by have := mt (nI_le_iff (b := 0) ha hb).mpr z; omega))
theorem j_istore_n_1_0 {a : Value} {x : Int32} (hdg : decode M.2.1 pc = .ok (.istore_n 0, 1)) (hq : pc + 1 = q) (hm : M.2.2.1 = 1) (h : J g d M Z q [(.int x)] st σ) : J g d M Z pc [a] (.int x :: st) σ := j_istore_n hdg hq (by rw [hm]; decide) nlg0 h
theorem j_astore_n_1_0 {a : Value} {x : Nat} (hdg : decode M.2.1 pc = .ok (.astore_n 0, 1)) (hq : pc + 1 = q) (hm : M.2.2.1 = 1) (h : J g d M Z q [(.ref x)] st σ) : J g d M Z pc [a] (.ref x :: st) σ := j_astore_n hdg hq (by rw [hm]; decide) nlg0 h
theorem j_iinc_1_0 {x : Int32} {z : Int} (hdg : decode M.2.1 pc = .ok (.iinc 0 z, 3)) (hq : pc + 3 = q) (hm : M.2.2.1 = 1) (h : J g d M Z q [.int (x + Int32.ofInt z)] st σ) : J g d M Z pc [.int x] st σ := j_iinc hdg hq (x := x) rfl (by rw [hm]; decide) nlg0 h
theorem j_iincN_1_0 {x : Nat} (hdg : decode M.2.1 pc = .ok (.iinc 0 1, 3)) (hq : pc + 3 = q) (hm : M.2.2.1 = 1) (h : J g d M Z q [.int (nI (x + 1))] st σ) : J g d M Z pc [.int (nI x)] st σ := j_iinc_1_0 hdg hq hm (by rw [show nI x + Int32.ofInt 1 = nI (x + 1) from nI_1 x]; exact h)
theorem j_istore_n_2_0 {a b : Value} {x : Int32} (hdg : decode M.2.1 pc = .ok (.istore_n 0, 1)) (hq : pc + 1 = q) (hm : M.2.2.1 = 2) (h : J g d M Z q [(.int x), b] st σ) : J g d M Z pc [a, b] (.int x :: st) σ := j_istore_n hdg hq (by rw [hm]; decide) nlg0 h
theorem j_astore_n_2_0 {a b : Value} {x : Nat} (hdg : decode M.2.1 pc = .ok (.astore_n 0, 1)) (hq : pc + 1 = q) (hm : M.2.2.1 = 2) (h : J g d M Z q [(.ref x), b] st σ) : J g d M Z pc [a, b] (.ref x :: st) σ := j_astore_n hdg hq (by rw [hm]; decide) nlg0 h
theorem j_iinc_2_0 {b : Value} {x : Int32} {z : Int} (hdg : decode M.2.1 pc = .ok (.iinc 0 z, 3)) (hq : pc + 3 = q) (hm : M.2.2.1 = 2) (h : J g d M Z q [.int (x + Int32.ofInt z), b] st σ) : J g d M Z pc [.int x, b] st σ := j_iinc hdg hq (x := x) rfl (by rw [hm]; decide) nlg0 h
theorem j_iincN_2_0 {b : Value} {x : Nat} (hdg : decode M.2.1 pc = .ok (.iinc 0 1, 3)) (hq : pc + 3 = q) (hm : M.2.2.1 = 2) (h : J g d M Z q [.int (nI (x + 1)), b] st σ) : J g d M Z pc [.int (nI x), b] st σ := j_iinc_2_0 hdg hq hm (by rw [show nI x + Int32.ofInt 1 = nI (x + 1) from nI_1 x]; exact h)
theorem j_istore_n_2_1 {a b : Value} {x : Int32} (hdg : decode M.2.1 pc = .ok (.istore_n 1, 1)) (hq : pc + 1 = q) (hm : M.2.2.1 = 2) (hc : a.category = 1) (h : J g d M Z q [a, (.int x)] st σ) : J g d M Z pc [a, b] (.int x :: st) σ := j_istore_n hdg hq (by rw [hm]; decide) (nlg1 (v := a) rfl hc) h
theorem j_astore_n_2_1 {a b : Value} {x : Nat} (hdg : decode M.2.1 pc = .ok (.astore_n 1, 1)) (hq : pc + 1 = q) (hm : M.2.2.1 = 2) (hc : a.category = 1) (h : J g d M Z q [a, (.ref x)] st σ) : J g d M Z pc [a, b] (.ref x :: st) σ := j_astore_n hdg hq (by rw [hm]; decide) (nlg1 (v := a) rfl hc) h
theorem j_iinc_2_1 {a : Value} {x : Int32} {z : Int} (hdg : decode M.2.1 pc = .ok (.iinc 1 z, 3)) (hq : pc + 3 = q) (hm : M.2.2.1 = 2) (hc : a.category = 1) (h : J g d M Z q [a, .int (x + Int32.ofInt z)] st σ) : J g d M Z pc [a, .int x] st σ := j_iinc hdg hq (x := x) rfl (by rw [hm]; decide) (nlg1 (v := a) rfl hc) h
theorem j_iincN_2_1 {a : Value} {x : Nat} (hdg : decode M.2.1 pc = .ok (.iinc 1 1, 3)) (hq : pc + 3 = q) (hm : M.2.2.1 = 2) (hc : a.category = 1) (h : J g d M Z q [a, .int (nI (x + 1))] st σ) : J g d M Z pc [a, .int (nI x)] st σ := j_iinc_2_1 hdg hq hm hc (by rw [show nI x + Int32.ofInt 1 = nI (x + 1) from nI_1 x]; exact h)
theorem j_istore_n_3_0 {a b c : Value} {x : Int32} (hdg : decode M.2.1 pc = .ok (.istore_n 0, 1)) (hq : pc + 1 = q) (hm : M.2.2.1 = 3) (h : J g d M Z q [(.int x), b, c] st σ) : J g d M Z pc [a, b, c] (.int x :: st) σ := j_istore_n hdg hq (by rw [hm]; decide) nlg0 h
theorem j_astore_n_3_0 {a b c : Value} {x : Nat} (hdg : decode M.2.1 pc = .ok (.astore_n 0, 1)) (hq : pc + 1 = q) (hm : M.2.2.1 = 3) (h : J g d M Z q [(.ref x), b, c] st σ) : J g d M Z pc [a, b, c] (.ref x :: st) σ := j_astore_n hdg hq (by rw [hm]; decide) nlg0 h
theorem j_iinc_3_0 {b c : Value} {x : Int32} {z : Int} (hdg : decode M.2.1 pc = .ok (.iinc 0 z, 3)) (hq : pc + 3 = q) (hm : M.2.2.1 = 3) (h : J g d M Z q [.int (x + Int32.ofInt z), b, c] st σ) : J g d M Z pc [.int x, b, c] st σ := j_iinc hdg hq (x := x) rfl (by rw [hm]; decide) nlg0 h
theorem j_iincN_3_0 {b c : Value} {x : Nat} (hdg : decode M.2.1 pc = .ok (.iinc 0 1, 3)) (hq : pc + 3 = q) (hm : M.2.2.1 = 3) (h : J g d M Z q [.int (nI (x + 1)), b, c] st σ) : J g d M Z pc [.int (nI x), b, c] st σ := j_iinc_3_0 hdg hq hm (by rw [show nI x + Int32.ofInt 1 = nI (x + 1) from nI_1 x]; exact h)
theorem j_istore_n_3_1 {a b c : Value} {x : Int32} (hdg : decode M.2.1 pc = .ok (.istore_n 1, 1)) (hq : pc + 1 = q) (hm : M.2.2.1 = 3) (hc : a.category = 1) (h : J g d M Z q [a, (.int x), c] st σ) : J g d M Z pc [a, b, c] (.int x :: st) σ := j_istore_n hdg hq (by rw [hm]; decide) (nlg1 (v := a) rfl hc) h
theorem j_astore_n_3_1 {a b c : Value} {x : Nat} (hdg : decode M.2.1 pc = .ok (.astore_n 1, 1)) (hq : pc + 1 = q) (hm : M.2.2.1 = 3) (hc : a.category = 1) (h : J g d M Z q [a, (.ref x), c] st σ) : J g d M Z pc [a, b, c] (.ref x :: st) σ := j_astore_n hdg hq (by rw [hm]; decide) (nlg1 (v := a) rfl hc) h
theorem j_iinc_3_1 {a c : Value} {x : Int32} {z : Int} (hdg : decode M.2.1 pc = .ok (.iinc 1 z, 3)) (hq : pc + 3 = q) (hm : M.2.2.1 = 3) (hc : a.category = 1) (h : J g d M Z q [a, .int (x + Int32.ofInt z), c] st σ) : J g d M Z pc [a, .int x, c] st σ := j_iinc hdg hq (x := x) rfl (by rw [hm]; decide) (nlg1 (v := a) rfl hc) h
theorem j_iincN_3_1 {a c : Value} {x : Nat} (hdg : decode M.2.1 pc = .ok (.iinc 1 1, 3)) (hq : pc + 3 = q) (hm : M.2.2.1 = 3) (hc : a.category = 1) (h : J g d M Z q [a, .int (nI (x + 1)), c] st σ) : J g d M Z pc [a, .int (nI x), c] st σ := j_iinc_3_1 hdg hq hm hc (by rw [show nI x + Int32.ofInt 1 = nI (x + 1) from nI_1 x]; exact h)
theorem j_istore_n_3_2 {a b c : Value} {x : Int32} (hdg : decode M.2.1 pc = .ok (.istore_n 2, 1)) (hq : pc + 1 = q) (hm : M.2.2.1 = 3) (hc : b.category = 1) (h : J g d M Z q [a, b, (.int x)] st σ) : J g d M Z pc [a, b, c] (.int x :: st) σ := j_istore_n hdg hq (by rw [hm]; decide) (nlg1 (v := b) rfl hc) h
theorem j_astore_n_3_2 {a b c : Value} {x : Nat} (hdg : decode M.2.1 pc = .ok (.astore_n 2, 1)) (hq : pc + 1 = q) (hm : M.2.2.1 = 3) (hc : b.category = 1) (h : J g d M Z q [a, b, (.ref x)] st σ) : J g d M Z pc [a, b, c] (.ref x :: st) σ := j_astore_n hdg hq (by rw [hm]; decide) (nlg1 (v := b) rfl hc) h
theorem j_iinc_3_2 {a b : Value} {x : Int32} {z : Int} (hdg : decode M.2.1 pc = .ok (.iinc 2 z, 3)) (hq : pc + 3 = q) (hm : M.2.2.1 = 3) (hc : b.category = 1) (h : J g d M Z q [a, b, .int (x + Int32.ofInt z)] st σ) : J g d M Z pc [a, b, .int x] st σ := j_iinc hdg hq (x := x) rfl (by rw [hm]; decide) (nlg1 (v := b) rfl hc) h
theorem j_iincN_3_2 {a b : Value} {x : Nat} (hdg : decode M.2.1 pc = .ok (.iinc 2 1, 3)) (hq : pc + 3 = q) (hm : M.2.2.1 = 3) (hc : b.category = 1) (h : J g d M Z q [a, b, .int (nI (x + 1))] st σ) : J g d M Z pc [a, b, .int (nI x)] st σ := j_iinc_3_2 hdg hq hm hc (by rw [show nI x + Int32.ofInt 1 = nI (x + 1) from nI_1 x]; exact h)
theorem j_istore_n_4_0 {a b c e : Value} {x : Int32} (hdg : decode M.2.1 pc = .ok (.istore_n 0, 1)) (hq : pc + 1 = q) (hm : M.2.2.1 = 4) (h : J g d M Z q [(.int x), b, c, e] st σ) : J g d M Z pc [a, b, c, e] (.int x :: st) σ := j_istore_n hdg hq (by rw [hm]; decide) nlg0 h
theorem j_astore_n_4_0 {a b c e : Value} {x : Nat} (hdg : decode M.2.1 pc = .ok (.astore_n 0, 1)) (hq : pc + 1 = q) (hm : M.2.2.1 = 4) (h : J g d M Z q [(.ref x), b, c, e] st σ) : J g d M Z pc [a, b, c, e] (.ref x :: st) σ := j_astore_n hdg hq (by rw [hm]; decide) nlg0 h
theorem j_iinc_4_0 {b c e : Value} {x : Int32} {z : Int} (hdg : decode M.2.1 pc = .ok (.iinc 0 z, 3)) (hq : pc + 3 = q) (hm : M.2.2.1 = 4) (h : J g d M Z q [.int (x + Int32.ofInt z), b, c, e] st σ) : J g d M Z pc [.int x, b, c, e] st σ := j_iinc hdg hq (x := x) rfl (by rw [hm]; decide) nlg0 h
theorem j_iincN_4_0 {b c e : Value} {x : Nat} (hdg : decode M.2.1 pc = .ok (.iinc 0 1, 3)) (hq : pc + 3 = q) (hm : M.2.2.1 = 4) (h : J g d M Z q [.int (nI (x + 1)), b, c, e] st σ) : J g d M Z pc [.int (nI x), b, c, e] st σ := j_iinc_4_0 hdg hq hm (by rw [show nI x + Int32.ofInt 1 = nI (x + 1) from nI_1 x]; exact h)
theorem j_istore_n_4_1 {a b c e : Value} {x : Int32} (hdg : decode M.2.1 pc = .ok (.istore_n 1, 1)) (hq : pc + 1 = q) (hm : M.2.2.1 = 4) (hc : a.category = 1) (h : J g d M Z q [a, (.int x), c, e] st σ) : J g d M Z pc [a, b, c, e] (.int x :: st) σ := j_istore_n hdg hq (by rw [hm]; decide) (nlg1 (v := a) rfl hc) h
theorem j_astore_n_4_1 {a b c e : Value} {x : Nat} (hdg : decode M.2.1 pc = .ok (.astore_n 1, 1)) (hq : pc + 1 = q) (hm : M.2.2.1 = 4) (hc : a.category = 1) (h : J g d M Z q [a, (.ref x), c, e] st σ) : J g d M Z pc [a, b, c, e] (.ref x :: st) σ := j_astore_n hdg hq (by rw [hm]; decide) (nlg1 (v := a) rfl hc) h
theorem j_iinc_4_1 {a c e : Value} {x : Int32} {z : Int} (hdg : decode M.2.1 pc = .ok (.iinc 1 z, 3)) (hq : pc + 3 = q) (hm : M.2.2.1 = 4) (hc : a.category = 1) (h : J g d M Z q [a, .int (x + Int32.ofInt z), c, e] st σ) : J g d M Z pc [a, .int x, c, e] st σ := j_iinc hdg hq (x := x) rfl (by rw [hm]; decide) (nlg1 (v := a) rfl hc) h
theorem j_iincN_4_1 {a c e : Value} {x : Nat} (hdg : decode M.2.1 pc = .ok (.iinc 1 1, 3)) (hq : pc + 3 = q) (hm : M.2.2.1 = 4) (hc : a.category = 1) (h : J g d M Z q [a, .int (nI (x + 1)), c, e] st σ) : J g d M Z pc [a, .int (nI x), c, e] st σ := j_iinc_4_1 hdg hq hm hc (by rw [show nI x + Int32.ofInt 1 = nI (x + 1) from nI_1 x]; exact h)
theorem j_istore_n_4_2 {a b c e : Value} {x : Int32} (hdg : decode M.2.1 pc = .ok (.istore_n 2, 1)) (hq : pc + 1 = q) (hm : M.2.2.1 = 4) (hc : b.category = 1) (h : J g d M Z q [a, b, (.int x), e] st σ) : J g d M Z pc [a, b, c, e] (.int x :: st) σ := j_istore_n hdg hq (by rw [hm]; decide) (nlg1 (v := b) rfl hc) h
theorem j_astore_n_4_2 {a b c e : Value} {x : Nat} (hdg : decode M.2.1 pc = .ok (.astore_n 2, 1)) (hq : pc + 1 = q) (hm : M.2.2.1 = 4) (hc : b.category = 1) (h : J g d M Z q [a, b, (.ref x), e] st σ) : J g d M Z pc [a, b, c, e] (.ref x :: st) σ := j_astore_n hdg hq (by rw [hm]; decide) (nlg1 (v := b) rfl hc) h
theorem j_iinc_4_2 {a b e : Value} {x : Int32} {z : Int} (hdg : decode M.2.1 pc = .ok (.iinc 2 z, 3)) (hq : pc + 3 = q) (hm : M.2.2.1 = 4) (hc : b.category = 1) (h : J g d M Z q [a, b, .int (x + Int32.ofInt z), e] st σ) : J g d M Z pc [a, b, .int x, e] st σ := j_iinc hdg hq (x := x) rfl (by rw [hm]; decide) (nlg1 (v := b) rfl hc) h
theorem j_iincN_4_2 {a b e : Value} {x : Nat} (hdg : decode M.2.1 pc = .ok (.iinc 2 1, 3)) (hq : pc + 3 = q) (hm : M.2.2.1 = 4) (hc : b.category = 1) (h : J g d M Z q [a, b, .int (nI (x + 1)), e] st σ) : J g d M Z pc [a, b, .int (nI x), e] st σ := j_iinc_4_2 hdg hq hm hc (by rw [show nI x + Int32.ofInt 1 = nI (x + 1) from nI_1 x]; exact h)
theorem j_istore_n_4_3 {a b c e : Value} {x : Int32} (hdg : decode M.2.1 pc = .ok (.istore_n 3, 1)) (hq : pc + 1 = q) (hm : M.2.2.1 = 4) (hc : c.category = 1) (h : J g d M Z q [a, b, c, (.int x)] st σ) : J g d M Z pc [a, b, c, e] (.int x :: st) σ := j_istore_n hdg hq (by rw [hm]; decide) (nlg1 (v := c) rfl hc) h
theorem j_astore_n_4_3 {a b c e : Value} {x : Nat} (hdg : decode M.2.1 pc = .ok (.astore_n 3, 1)) (hq : pc + 1 = q) (hm : M.2.2.1 = 4) (hc : c.category = 1) (h : J g d M Z q [a, b, c, (.ref x)] st σ) : J g d M Z pc [a, b, c, e] (.ref x :: st) σ := j_astore_n hdg hq (by rw [hm]; decide) (nlg1 (v := c) rfl hc) h
theorem j_iinc_4_3 {a b c : Value} {x : Int32} {z : Int} (hdg : decode M.2.1 pc = .ok (.iinc 3 z, 3)) (hq : pc + 3 = q) (hm : M.2.2.1 = 4) (hc : c.category = 1) (h : J g d M Z q [a, b, c, .int (x + Int32.ofInt z)] st σ) : J g d M Z pc [a, b, c, .int x] st σ := j_iinc hdg hq (x := x) rfl (by rw [hm]; decide) (nlg1 (v := c) rfl hc) h
theorem j_iincN_4_3 {a b c : Value} {x : Nat} (hdg : decode M.2.1 pc = .ok (.iinc 3 1, 3)) (hq : pc + 3 = q) (hm : M.2.2.1 = 4) (hc : c.category = 1) (h : J g d M Z q [a, b, c, .int (nI (x + 1))] st σ) : J g d M Z pc [a, b, c, .int (nI x)] st σ := j_iinc_4_3 hdg hq hm hc (by rw [show nI x + Int32.ofInt 1 = nI (x + 1) from nI_1 x]; exact h)
theorem j_istore_n_5_0 {a b c e f : Value} {x : Int32} (hdg : decode M.2.1 pc = .ok (.istore_n 0, 1)) (hq : pc + 1 = q) (hm : M.2.2.1 = 5) (h : J g d M Z q [(.int x), b, c, e, f] st σ) : J g d M Z pc [a, b, c, e, f] (.int x :: st) σ := j_istore_n hdg hq (by rw [hm]; decide) nlg0 h
theorem j_astore_n_5_0 {a b c e f : Value} {x : Nat} (hdg : decode M.2.1 pc = .ok (.astore_n 0, 1)) (hq : pc + 1 = q) (hm : M.2.2.1 = 5) (h : J g d M Z q [(.ref x), b, c, e, f] st σ) : J g d M Z pc [a, b, c, e, f] (.ref x :: st) σ := j_astore_n hdg hq (by rw [hm]; decide) nlg0 h
theorem j_iinc_5_0 {b c e f : Value} {x : Int32} {z : Int} (hdg : decode M.2.1 pc = .ok (.iinc 0 z, 3)) (hq : pc + 3 = q) (hm : M.2.2.1 = 5) (h : J g d M Z q [.int (x + Int32.ofInt z), b, c, e, f] st σ) : J g d M Z pc [.int x, b, c, e, f] st σ := j_iinc hdg hq (x := x) rfl (by rw [hm]; decide) nlg0 h
theorem j_iincN_5_0 {b c e f : Value} {x : Nat} (hdg : decode M.2.1 pc = .ok (.iinc 0 1, 3)) (hq : pc + 3 = q) (hm : M.2.2.1 = 5) (h : J g d M Z q [.int (nI (x + 1)), b, c, e, f] st σ) : J g d M Z pc [.int (nI x), b, c, e, f] st σ := j_iinc_5_0 hdg hq hm (by rw [show nI x + Int32.ofInt 1 = nI (x + 1) from nI_1 x]; exact h)
theorem j_istore_n_5_1 {a b c e f : Value} {x : Int32} (hdg : decode M.2.1 pc = .ok (.istore_n 1, 1)) (hq : pc + 1 = q) (hm : M.2.2.1 = 5) (hc : a.category = 1) (h : J g d M Z q [a, (.int x), c, e, f] st σ) : J g d M Z pc [a, b, c, e, f] (.int x :: st) σ := j_istore_n hdg hq (by rw [hm]; decide) (nlg1 (v := a) rfl hc) h
theorem j_astore_n_5_1 {a b c e f : Value} {x : Nat} (hdg : decode M.2.1 pc = .ok (.astore_n 1, 1)) (hq : pc + 1 = q) (hm : M.2.2.1 = 5) (hc : a.category = 1) (h : J g d M Z q [a, (.ref x), c, e, f] st σ) : J g d M Z pc [a, b, c, e, f] (.ref x :: st) σ := j_astore_n hdg hq (by rw [hm]; decide) (nlg1 (v := a) rfl hc) h
theorem j_iinc_5_1 {a c e f : Value} {x : Int32} {z : Int} (hdg : decode M.2.1 pc = .ok (.iinc 1 z, 3)) (hq : pc + 3 = q) (hm : M.2.2.1 = 5) (hc : a.category = 1) (h : J g d M Z q [a, .int (x + Int32.ofInt z), c, e, f] st σ) : J g d M Z pc [a, .int x, c, e, f] st σ := j_iinc hdg hq (x := x) rfl (by rw [hm]; decide) (nlg1 (v := a) rfl hc) h
theorem j_iincN_5_1 {a c e f : Value} {x : Nat} (hdg : decode M.2.1 pc = .ok (.iinc 1 1, 3)) (hq : pc + 3 = q) (hm : M.2.2.1 = 5) (hc : a.category = 1) (h : J g d M Z q [a, .int (nI (x + 1)), c, e, f] st σ) : J g d M Z pc [a, .int (nI x), c, e, f] st σ := j_iinc_5_1 hdg hq hm hc (by rw [show nI x + Int32.ofInt 1 = nI (x + 1) from nI_1 x]; exact h)
theorem j_istore_n_5_2 {a b c e f : Value} {x : Int32} (hdg : decode M.2.1 pc = .ok (.istore_n 2, 1)) (hq : pc + 1 = q) (hm : M.2.2.1 = 5) (hc : b.category = 1) (h : J g d M Z q [a, b, (.int x), e, f] st σ) : J g d M Z pc [a, b, c, e, f] (.int x :: st) σ := j_istore_n hdg hq (by rw [hm]; decide) (nlg1 (v := b) rfl hc) h
theorem j_astore_n_5_2 {a b c e f : Value} {x : Nat} (hdg : decode M.2.1 pc = .ok (.astore_n 2, 1)) (hq : pc + 1 = q) (hm : M.2.2.1 = 5) (hc : b.category = 1) (h : J g d M Z q [a, b, (.ref x), e, f] st σ) : J g d M Z pc [a, b, c, e, f] (.ref x :: st) σ := j_astore_n hdg hq (by rw [hm]; decide) (nlg1 (v := b) rfl hc) h
theorem j_iinc_5_2 {a b e f : Value} {x : Int32} {z : Int} (hdg : decode M.2.1 pc = .ok (.iinc 2 z, 3)) (hq : pc + 3 = q) (hm : M.2.2.1 = 5) (hc : b.category = 1) (h : J g d M Z q [a, b, .int (x + Int32.ofInt z), e, f] st σ) : J g d M Z pc [a, b, .int x, e, f] st σ := j_iinc hdg hq (x := x) rfl (by rw [hm]; decide) (nlg1 (v := b) rfl hc) h
theorem j_iincN_5_2 {a b e f : Value} {x : Nat} (hdg : decode M.2.1 pc = .ok (.iinc 2 1, 3)) (hq : pc + 3 = q) (hm : M.2.2.1 = 5) (hc : b.category = 1) (h : J g d M Z q [a, b, .int (nI (x + 1)), e, f] st σ) : J g d M Z pc [a, b, .int (nI x), e, f] st σ := j_iinc_5_2 hdg hq hm hc (by rw [show nI x + Int32.ofInt 1 = nI (x + 1) from nI_1 x]; exact h)
theorem j_istore_n_5_3 {a b c e f : Value} {x : Int32} (hdg : decode M.2.1 pc = .ok (.istore_n 3, 1)) (hq : pc + 1 = q) (hm : M.2.2.1 = 5) (hc : c.category = 1) (h : J g d M Z q [a, b, c, (.int x), f] st σ) : J g d M Z pc [a, b, c, e, f] (.int x :: st) σ := j_istore_n hdg hq (by rw [hm]; decide) (nlg1 (v := c) rfl hc) h
theorem j_astore_n_5_3 {a b c e f : Value} {x : Nat} (hdg : decode M.2.1 pc = .ok (.astore_n 3, 1)) (hq : pc + 1 = q) (hm : M.2.2.1 = 5) (hc : c.category = 1) (h : J g d M Z q [a, b, c, (.ref x), f] st σ) : J g d M Z pc [a, b, c, e, f] (.ref x :: st) σ := j_astore_n hdg hq (by rw [hm]; decide) (nlg1 (v := c) rfl hc) h
theorem j_iinc_5_3 {a b c f : Value} {x : Int32} {z : Int} (hdg : decode M.2.1 pc = .ok (.iinc 3 z, 3)) (hq : pc + 3 = q) (hm : M.2.2.1 = 5) (hc : c.category = 1) (h : J g d M Z q [a, b, c, .int (x + Int32.ofInt z), f] st σ) : J g d M Z pc [a, b, c, .int x, f] st σ := j_iinc hdg hq (x := x) rfl (by rw [hm]; decide) (nlg1 (v := c) rfl hc) h
theorem j_iincN_5_3 {a b c f : Value} {x : Nat} (hdg : decode M.2.1 pc = .ok (.iinc 3 1, 3)) (hq : pc + 3 = q) (hm : M.2.2.1 = 5) (hc : c.category = 1) (h : J g d M Z q [a, b, c, .int (nI (x + 1)), f] st σ) : J g d M Z pc [a, b, c, .int (nI x), f] st σ := j_iinc_5_3 hdg hq hm hc (by rw [show nI x + Int32.ofInt 1 = nI (x + 1) from nI_1 x]; exact h)
theorem j_istore_5_4 {a b c e f : Value} {x : Int32} (hdg : decode M.2.1 pc = .ok (.istore 4, 2)) (hq : pc + 2 = q) (hm : M.2.2.1 = 5) (hc : e.category = 1) (h : J g d M Z q [a, b, c, e, (.int x)] st σ) : J g d M Z pc [a, b, c, e, f] (.int x :: st) σ := j_istore hdg hq (by rw [hm]; decide) (nlg1 (v := e) rfl hc) h
theorem j_astore_5_4 {a b c e f : Value} {x : Nat} (hdg : decode M.2.1 pc = .ok (.astore 4, 2)) (hq : pc + 2 = q) (hm : M.2.2.1 = 5) (hc : e.category = 1) (h : J g d M Z q [a, b, c, e, (.ref x)] st σ) : J g d M Z pc [a, b, c, e, f] (.ref x :: st) σ := j_astore hdg hq (by rw [hm]; decide) (nlg1 (v := e) rfl hc) h
theorem j_iinc_5_4 {a b c e : Value} {x : Int32} {z : Int} (hdg : decode M.2.1 pc = .ok (.iinc 4 z, 3)) (hq : pc + 3 = q) (hm : M.2.2.1 = 5) (hc : e.category = 1) (h : J g d M Z q [a, b, c, e, .int (x + Int32.ofInt z)] st σ) : J g d M Z pc [a, b, c, e, .int x] st σ := j_iinc hdg hq (x := x) rfl (by rw [hm]; decide) (nlg1 (v := e) rfl hc) h
theorem j_iincN_5_4 {a b c e : Value} {x : Nat} (hdg : decode M.2.1 pc = .ok (.iinc 4 1, 3)) (hq : pc + 3 = q) (hm : M.2.2.1 = 5) (hc : e.category = 1) (h : J g d M Z q [a, b, c, e, .int (nI (x + 1))] st σ) : J g d M Z pc [a, b, c, e, .int (nI x)] st σ := j_iinc_5_4 hdg hq hm hc (by rw [show nI x + Int32.ofInt 1 = nI (x + 1) from nI_1 x]; exact h)
theorem j_istore_n_6_0 {a b c e f i : Value} {x : Int32} (hdg : decode M.2.1 pc = .ok (.istore_n 0, 1)) (hq : pc + 1 = q) (hm : M.2.2.1 = 6) (h : J g d M Z q [(.int x), b, c, e, f, i] st σ) : J g d M Z pc [a, b, c, e, f, i] (.int x :: st) σ := j_istore_n hdg hq (by rw [hm]; decide) nlg0 h
theorem j_astore_n_6_0 {a b c e f i : Value} {x : Nat} (hdg : decode M.2.1 pc = .ok (.astore_n 0, 1)) (hq : pc + 1 = q) (hm : M.2.2.1 = 6) (h : J g d M Z q [(.ref x), b, c, e, f, i] st σ) : J g d M Z pc [a, b, c, e, f, i] (.ref x :: st) σ := j_astore_n hdg hq (by rw [hm]; decide) nlg0 h
theorem j_iinc_6_0 {b c e f i : Value} {x : Int32} {z : Int} (hdg : decode M.2.1 pc = .ok (.iinc 0 z, 3)) (hq : pc + 3 = q) (hm : M.2.2.1 = 6) (h : J g d M Z q [.int (x + Int32.ofInt z), b, c, e, f, i] st σ) : J g d M Z pc [.int x, b, c, e, f, i] st σ := j_iinc hdg hq (x := x) rfl (by rw [hm]; decide) nlg0 h
theorem j_iincN_6_0 {b c e f i : Value} {x : Nat} (hdg : decode M.2.1 pc = .ok (.iinc 0 1, 3)) (hq : pc + 3 = q) (hm : M.2.2.1 = 6) (h : J g d M Z q [.int (nI (x + 1)), b, c, e, f, i] st σ) : J g d M Z pc [.int (nI x), b, c, e, f, i] st σ := j_iinc_6_0 hdg hq hm (by rw [show nI x + Int32.ofInt 1 = nI (x + 1) from nI_1 x]; exact h)
theorem j_istore_n_6_1 {a b c e f i : Value} {x : Int32} (hdg : decode M.2.1 pc = .ok (.istore_n 1, 1)) (hq : pc + 1 = q) (hm : M.2.2.1 = 6) (hc : a.category = 1) (h : J g d M Z q [a, (.int x), c, e, f, i] st σ) : J g d M Z pc [a, b, c, e, f, i] (.int x :: st) σ := j_istore_n hdg hq (by rw [hm]; decide) (nlg1 (v := a) rfl hc) h
theorem j_astore_n_6_1 {a b c e f i : Value} {x : Nat} (hdg : decode M.2.1 pc = .ok (.astore_n 1, 1)) (hq : pc + 1 = q) (hm : M.2.2.1 = 6) (hc : a.category = 1) (h : J g d M Z q [a, (.ref x), c, e, f, i] st σ) : J g d M Z pc [a, b, c, e, f, i] (.ref x :: st) σ := j_astore_n hdg hq (by rw [hm]; decide) (nlg1 (v := a) rfl hc) h
theorem j_iinc_6_1 {a c e f i : Value} {x : Int32} {z : Int} (hdg : decode M.2.1 pc = .ok (.iinc 1 z, 3)) (hq : pc + 3 = q) (hm : M.2.2.1 = 6) (hc : a.category = 1) (h : J g d M Z q [a, .int (x + Int32.ofInt z), c, e, f, i] st σ) : J g d M Z pc [a, .int x, c, e, f, i] st σ := j_iinc hdg hq (x := x) rfl (by rw [hm]; decide) (nlg1 (v := a) rfl hc) h
theorem j_iincN_6_1 {a c e f i : Value} {x : Nat} (hdg : decode M.2.1 pc = .ok (.iinc 1 1, 3)) (hq : pc + 3 = q) (hm : M.2.2.1 = 6) (hc : a.category = 1) (h : J g d M Z q [a, .int (nI (x + 1)), c, e, f, i] st σ) : J g d M Z pc [a, .int (nI x), c, e, f, i] st σ := j_iinc_6_1 hdg hq hm hc (by rw [show nI x + Int32.ofInt 1 = nI (x + 1) from nI_1 x]; exact h)
theorem j_istore_n_6_2 {a b c e f i : Value} {x : Int32} (hdg : decode M.2.1 pc = .ok (.istore_n 2, 1)) (hq : pc + 1 = q) (hm : M.2.2.1 = 6) (hc : b.category = 1) (h : J g d M Z q [a, b, (.int x), e, f, i] st σ) : J g d M Z pc [a, b, c, e, f, i] (.int x :: st) σ := j_istore_n hdg hq (by rw [hm]; decide) (nlg1 (v := b) rfl hc) h
theorem j_astore_n_6_2 {a b c e f i : Value} {x : Nat} (hdg : decode M.2.1 pc = .ok (.astore_n 2, 1)) (hq : pc + 1 = q) (hm : M.2.2.1 = 6) (hc : b.category = 1) (h : J g d M Z q [a, b, (.ref x), e, f, i] st σ) : J g d M Z pc [a, b, c, e, f, i] (.ref x :: st) σ := j_astore_n hdg hq (by rw [hm]; decide) (nlg1 (v := b) rfl hc) h
theorem j_iinc_6_2 {a b e f i : Value} {x : Int32} {z : Int} (hdg : decode M.2.1 pc = .ok (.iinc 2 z, 3)) (hq : pc + 3 = q) (hm : M.2.2.1 = 6) (hc : b.category = 1) (h : J g d M Z q [a, b, .int (x + Int32.ofInt z), e, f, i] st σ) : J g d M Z pc [a, b, .int x, e, f, i] st σ := j_iinc hdg hq (x := x) rfl (by rw [hm]; decide) (nlg1 (v := b) rfl hc) h
theorem j_iincN_6_2 {a b e f i : Value} {x : Nat} (hdg : decode M.2.1 pc = .ok (.iinc 2 1, 3)) (hq : pc + 3 = q) (hm : M.2.2.1 = 6) (hc : b.category = 1) (h : J g d M Z q [a, b, .int (nI (x + 1)), e, f, i] st σ) : J g d M Z pc [a, b, .int (nI x), e, f, i] st σ := j_iinc_6_2 hdg hq hm hc (by rw [show nI x + Int32.ofInt 1 = nI (x + 1) from nI_1 x]; exact h)
theorem j_istore_n_6_3 {a b c e f i : Value} {x : Int32} (hdg : decode M.2.1 pc = .ok (.istore_n 3, 1)) (hq : pc + 1 = q) (hm : M.2.2.1 = 6) (hc : c.category = 1) (h : J g d M Z q [a, b, c, (.int x), f, i] st σ) : J g d M Z pc [a, b, c, e, f, i] (.int x :: st) σ := j_istore_n hdg hq (by rw [hm]; decide) (nlg1 (v := c) rfl hc) h
theorem j_astore_n_6_3 {a b c e f i : Value} {x : Nat} (hdg : decode M.2.1 pc = .ok (.astore_n 3, 1)) (hq : pc + 1 = q) (hm : M.2.2.1 = 6) (hc : c.category = 1) (h : J g d M Z q [a, b, c, (.ref x), f, i] st σ) : J g d M Z pc [a, b, c, e, f, i] (.ref x :: st) σ := j_astore_n hdg hq (by rw [hm]; decide) (nlg1 (v := c) rfl hc) h
theorem j_iinc_6_3 {a b c f i : Value} {x : Int32} {z : Int} (hdg : decode M.2.1 pc = .ok (.iinc 3 z, 3)) (hq : pc + 3 = q) (hm : M.2.2.1 = 6) (hc : c.category = 1) (h : J g d M Z q [a, b, c, .int (x + Int32.ofInt z), f, i] st σ) : J g d M Z pc [a, b, c, .int x, f, i] st σ := j_iinc hdg hq (x := x) rfl (by rw [hm]; decide) (nlg1 (v := c) rfl hc) h
theorem j_iincN_6_3 {a b c f i : Value} {x : Nat} (hdg : decode M.2.1 pc = .ok (.iinc 3 1, 3)) (hq : pc + 3 = q) (hm : M.2.2.1 = 6) (hc : c.category = 1) (h : J g d M Z q [a, b, c, .int (nI (x + 1)), f, i] st σ) : J g d M Z pc [a, b, c, .int (nI x), f, i] st σ := j_iinc_6_3 hdg hq hm hc (by rw [show nI x + Int32.ofInt 1 = nI (x + 1) from nI_1 x]; exact h)
theorem j_istore_6_4 {a b c e f i : Value} {x : Int32} (hdg : decode M.2.1 pc = .ok (.istore 4, 2)) (hq : pc + 2 = q) (hm : M.2.2.1 = 6) (hc : e.category = 1) (h : J g d M Z q [a, b, c, e, (.int x), i] st σ) : J g d M Z pc [a, b, c, e, f, i] (.int x :: st) σ := j_istore hdg hq (by rw [hm]; decide) (nlg1 (v := e) rfl hc) h
theorem j_astore_6_4 {a b c e f i : Value} {x : Nat} (hdg : decode M.2.1 pc = .ok (.astore 4, 2)) (hq : pc + 2 = q) (hm : M.2.2.1 = 6) (hc : e.category = 1) (h : J g d M Z q [a, b, c, e, (.ref x), i] st σ) : J g d M Z pc [a, b, c, e, f, i] (.ref x :: st) σ := j_astore hdg hq (by rw [hm]; decide) (nlg1 (v := e) rfl hc) h
theorem j_iinc_6_4 {a b c e i : Value} {x : Int32} {z : Int} (hdg : decode M.2.1 pc = .ok (.iinc 4 z, 3)) (hq : pc + 3 = q) (hm : M.2.2.1 = 6) (hc : e.category = 1) (h : J g d M Z q [a, b, c, e, .int (x + Int32.ofInt z), i] st σ) : J g d M Z pc [a, b, c, e, .int x, i] st σ := j_iinc hdg hq (x := x) rfl (by rw [hm]; decide) (nlg1 (v := e) rfl hc) h
theorem j_iincN_6_4 {a b c e i : Value} {x : Nat} (hdg : decode M.2.1 pc = .ok (.iinc 4 1, 3)) (hq : pc + 3 = q) (hm : M.2.2.1 = 6) (hc : e.category = 1) (h : J g d M Z q [a, b, c, e, .int (nI (x + 1)), i] st σ) : J g d M Z pc [a, b, c, e, .int (nI x), i] st σ := j_iinc_6_4 hdg hq hm hc (by rw [show nI x + Int32.ofInt 1 = nI (x + 1) from nI_1 x]; exact h)
theorem j_istore_6_5 {a b c e f i : Value} {x : Int32} (hdg : decode M.2.1 pc = .ok (.istore 5, 2)) (hq : pc + 2 = q) (hm : M.2.2.1 = 6) (hc : f.category = 1) (h : J g d M Z q [a, b, c, e, f, (.int x)] st σ) : J g d M Z pc [a, b, c, e, f, i] (.int x :: st) σ := j_istore hdg hq (by rw [hm]; decide) (nlg1 (v := f) rfl hc) h
theorem j_astore_6_5 {a b c e f i : Value} {x : Nat} (hdg : decode M.2.1 pc = .ok (.astore 5, 2)) (hq : pc + 2 = q) (hm : M.2.2.1 = 6) (hc : f.category = 1) (h : J g d M Z q [a, b, c, e, f, (.ref x)] st σ) : J g d M Z pc [a, b, c, e, f, i] (.ref x :: st) σ := j_astore hdg hq (by rw [hm]; decide) (nlg1 (v := f) rfl hc) h
theorem j_iinc_6_5 {a b c e f : Value} {x : Int32} {z : Int} (hdg : decode M.2.1 pc = .ok (.iinc 5 z, 3)) (hq : pc + 3 = q) (hm : M.2.2.1 = 6) (hc : f.category = 1) (h : J g d M Z q [a, b, c, e, f, .int (x + Int32.ofInt z)] st σ) : J g d M Z pc [a, b, c, e, f, .int x] st σ := j_iinc hdg hq (x := x) rfl (by rw [hm]; decide) (nlg1 (v := f) rfl hc) h
theorem j_iincN_6_5 {a b c e f : Value} {x : Nat} (hdg : decode M.2.1 pc = .ok (.iinc 5 1, 3)) (hq : pc + 3 = q) (hm : M.2.2.1 = 6) (hc : f.category = 1) (h : J g d M Z q [a, b, c, e, f, .int (nI (x + 1))] st σ) : J g d M Z pc [a, b, c, e, f, .int (nI x)] st σ := j_iinc_6_5 hdg hq hm hc (by rw [show nI x + Int32.ofInt 1 = nI (x + 1) from nI_1 x]; exact h)
theorem j_istore_n_7_0 {a b c e f i j : Value} {x : Int32} (hdg : decode M.2.1 pc = .ok (.istore_n 0, 1)) (hq : pc + 1 = q) (hm : M.2.2.1 = 7) (h : J g d M Z q [(.int x), b, c, e, f, i, j] st σ) : J g d M Z pc [a, b, c, e, f, i, j] (.int x :: st) σ := j_istore_n hdg hq (by rw [hm]; decide) nlg0 h
theorem j_astore_n_7_0 {a b c e f i j : Value} {x : Nat} (hdg : decode M.2.1 pc = .ok (.astore_n 0, 1)) (hq : pc + 1 = q) (hm : M.2.2.1 = 7) (h : J g d M Z q [(.ref x), b, c, e, f, i, j] st σ) : J g d M Z pc [a, b, c, e, f, i, j] (.ref x :: st) σ := j_astore_n hdg hq (by rw [hm]; decide) nlg0 h
theorem j_iinc_7_0 {b c e f i j : Value} {x : Int32} {z : Int} (hdg : decode M.2.1 pc = .ok (.iinc 0 z, 3)) (hq : pc + 3 = q) (hm : M.2.2.1 = 7) (h : J g d M Z q [.int (x + Int32.ofInt z), b, c, e, f, i, j] st σ) : J g d M Z pc [.int x, b, c, e, f, i, j] st σ := j_iinc hdg hq (x := x) rfl (by rw [hm]; decide) nlg0 h
theorem j_iincN_7_0 {b c e f i j : Value} {x : Nat} (hdg : decode M.2.1 pc = .ok (.iinc 0 1, 3)) (hq : pc + 3 = q) (hm : M.2.2.1 = 7) (h : J g d M Z q [.int (nI (x + 1)), b, c, e, f, i, j] st σ) : J g d M Z pc [.int (nI x), b, c, e, f, i, j] st σ := j_iinc_7_0 hdg hq hm (by rw [show nI x + Int32.ofInt 1 = nI (x + 1) from nI_1 x]; exact h)
theorem j_istore_n_7_1 {a b c e f i j : Value} {x : Int32} (hdg : decode M.2.1 pc = .ok (.istore_n 1, 1)) (hq : pc + 1 = q) (hm : M.2.2.1 = 7) (hc : a.category = 1) (h : J g d M Z q [a, (.int x), c, e, f, i, j] st σ) : J g d M Z pc [a, b, c, e, f, i, j] (.int x :: st) σ := j_istore_n hdg hq (by rw [hm]; decide) (nlg1 (v := a) rfl hc) h
theorem j_astore_n_7_1 {a b c e f i j : Value} {x : Nat} (hdg : decode M.2.1 pc = .ok (.astore_n 1, 1)) (hq : pc + 1 = q) (hm : M.2.2.1 = 7) (hc : a.category = 1) (h : J g d M Z q [a, (.ref x), c, e, f, i, j] st σ) : J g d M Z pc [a, b, c, e, f, i, j] (.ref x :: st) σ := j_astore_n hdg hq (by rw [hm]; decide) (nlg1 (v := a) rfl hc) h
theorem j_iinc_7_1 {a c e f i j : Value} {x : Int32} {z : Int} (hdg : decode M.2.1 pc = .ok (.iinc 1 z, 3)) (hq : pc + 3 = q) (hm : M.2.2.1 = 7) (hc : a.category = 1) (h : J g d M Z q [a, .int (x + Int32.ofInt z), c, e, f, i, j] st σ) : J g d M Z pc [a, .int x, c, e, f, i, j] st σ := j_iinc hdg hq (x := x) rfl (by rw [hm]; decide) (nlg1 (v := a) rfl hc) h
theorem j_iincN_7_1 {a c e f i j : Value} {x : Nat} (hdg : decode M.2.1 pc = .ok (.iinc 1 1, 3)) (hq : pc + 3 = q) (hm : M.2.2.1 = 7) (hc : a.category = 1) (h : J g d M Z q [a, .int (nI (x + 1)), c, e, f, i, j] st σ) : J g d M Z pc [a, .int (nI x), c, e, f, i, j] st σ := j_iinc_7_1 hdg hq hm hc (by rw [show nI x + Int32.ofInt 1 = nI (x + 1) from nI_1 x]; exact h)
theorem j_istore_n_7_2 {a b c e f i j : Value} {x : Int32} (hdg : decode M.2.1 pc = .ok (.istore_n 2, 1)) (hq : pc + 1 = q) (hm : M.2.2.1 = 7) (hc : b.category = 1) (h : J g d M Z q [a, b, (.int x), e, f, i, j] st σ) : J g d M Z pc [a, b, c, e, f, i, j] (.int x :: st) σ := j_istore_n hdg hq (by rw [hm]; decide) (nlg1 (v := b) rfl hc) h
theorem j_astore_n_7_2 {a b c e f i j : Value} {x : Nat} (hdg : decode M.2.1 pc = .ok (.astore_n 2, 1)) (hq : pc + 1 = q) (hm : M.2.2.1 = 7) (hc : b.category = 1) (h : J g d M Z q [a, b, (.ref x), e, f, i, j] st σ) : J g d M Z pc [a, b, c, e, f, i, j] (.ref x :: st) σ := j_astore_n hdg hq (by rw [hm]; decide) (nlg1 (v := b) rfl hc) h
theorem j_iinc_7_2 {a b e f i j : Value} {x : Int32} {z : Int} (hdg : decode M.2.1 pc = .ok (.iinc 2 z, 3)) (hq : pc + 3 = q) (hm : M.2.2.1 = 7) (hc : b.category = 1) (h : J g d M Z q [a, b, .int (x + Int32.ofInt z), e, f, i, j] st σ) : J g d M Z pc [a, b, .int x, e, f, i, j] st σ := j_iinc hdg hq (x := x) rfl (by rw [hm]; decide) (nlg1 (v := b) rfl hc) h
theorem j_iincN_7_2 {a b e f i j : Value} {x : Nat} (hdg : decode M.2.1 pc = .ok (.iinc 2 1, 3)) (hq : pc + 3 = q) (hm : M.2.2.1 = 7) (hc : b.category = 1) (h : J g d M Z q [a, b, .int (nI (x + 1)), e, f, i, j] st σ) : J g d M Z pc [a, b, .int (nI x), e, f, i, j] st σ := j_iinc_7_2 hdg hq hm hc (by rw [show nI x + Int32.ofInt 1 = nI (x + 1) from nI_1 x]; exact h)
theorem j_istore_n_7_3 {a b c e f i j : Value} {x : Int32} (hdg : decode M.2.1 pc = .ok (.istore_n 3, 1)) (hq : pc + 1 = q) (hm : M.2.2.1 = 7) (hc : c.category = 1) (h : J g d M Z q [a, b, c, (.int x), f, i, j] st σ) : J g d M Z pc [a, b, c, e, f, i, j] (.int x :: st) σ := j_istore_n hdg hq (by rw [hm]; decide) (nlg1 (v := c) rfl hc) h
theorem j_astore_n_7_3 {a b c e f i j : Value} {x : Nat} (hdg : decode M.2.1 pc = .ok (.astore_n 3, 1)) (hq : pc + 1 = q) (hm : M.2.2.1 = 7) (hc : c.category = 1) (h : J g d M Z q [a, b, c, (.ref x), f, i, j] st σ) : J g d M Z pc [a, b, c, e, f, i, j] (.ref x :: st) σ := j_astore_n hdg hq (by rw [hm]; decide) (nlg1 (v := c) rfl hc) h
theorem j_iinc_7_3 {a b c f i j : Value} {x : Int32} {z : Int} (hdg : decode M.2.1 pc = .ok (.iinc 3 z, 3)) (hq : pc + 3 = q) (hm : M.2.2.1 = 7) (hc : c.category = 1) (h : J g d M Z q [a, b, c, .int (x + Int32.ofInt z), f, i, j] st σ) : J g d M Z pc [a, b, c, .int x, f, i, j] st σ := j_iinc hdg hq (x := x) rfl (by rw [hm]; decide) (nlg1 (v := c) rfl hc) h
theorem j_iincN_7_3 {a b c f i j : Value} {x : Nat} (hdg : decode M.2.1 pc = .ok (.iinc 3 1, 3)) (hq : pc + 3 = q) (hm : M.2.2.1 = 7) (hc : c.category = 1) (h : J g d M Z q [a, b, c, .int (nI (x + 1)), f, i, j] st σ) : J g d M Z pc [a, b, c, .int (nI x), f, i, j] st σ := j_iinc_7_3 hdg hq hm hc (by rw [show nI x + Int32.ofInt 1 = nI (x + 1) from nI_1 x]; exact h)
theorem j_istore_7_4 {a b c e f i j : Value} {x : Int32} (hdg : decode M.2.1 pc = .ok (.istore 4, 2)) (hq : pc + 2 = q) (hm : M.2.2.1 = 7) (hc : e.category = 1) (h : J g d M Z q [a, b, c, e, (.int x), i, j] st σ) : J g d M Z pc [a, b, c, e, f, i, j] (.int x :: st) σ := j_istore hdg hq (by rw [hm]; decide) (nlg1 (v := e) rfl hc) h
theorem j_astore_7_4 {a b c e f i j : Value} {x : Nat} (hdg : decode M.2.1 pc = .ok (.astore 4, 2)) (hq : pc + 2 = q) (hm : M.2.2.1 = 7) (hc : e.category = 1) (h : J g d M Z q [a, b, c, e, (.ref x), i, j] st σ) : J g d M Z pc [a, b, c, e, f, i, j] (.ref x :: st) σ := j_astore hdg hq (by rw [hm]; decide) (nlg1 (v := e) rfl hc) h
theorem j_iinc_7_4 {a b c e i j : Value} {x : Int32} {z : Int} (hdg : decode M.2.1 pc = .ok (.iinc 4 z, 3)) (hq : pc + 3 = q) (hm : M.2.2.1 = 7) (hc : e.category = 1) (h : J g d M Z q [a, b, c, e, .int (x + Int32.ofInt z), i, j] st σ) : J g d M Z pc [a, b, c, e, .int x, i, j] st σ := j_iinc hdg hq (x := x) rfl (by rw [hm]; decide) (nlg1 (v := e) rfl hc) h
theorem j_iincN_7_4 {a b c e i j : Value} {x : Nat} (hdg : decode M.2.1 pc = .ok (.iinc 4 1, 3)) (hq : pc + 3 = q) (hm : M.2.2.1 = 7) (hc : e.category = 1) (h : J g d M Z q [a, b, c, e, .int (nI (x + 1)), i, j] st σ) : J g d M Z pc [a, b, c, e, .int (nI x), i, j] st σ := j_iinc_7_4 hdg hq hm hc (by rw [show nI x + Int32.ofInt 1 = nI (x + 1) from nI_1 x]; exact h)
theorem j_istore_7_5 {a b c e f i j : Value} {x : Int32} (hdg : decode M.2.1 pc = .ok (.istore 5, 2)) (hq : pc + 2 = q) (hm : M.2.2.1 = 7) (hc : f.category = 1) (h : J g d M Z q [a, b, c, e, f, (.int x), j] st σ) : J g d M Z pc [a, b, c, e, f, i, j] (.int x :: st) σ := j_istore hdg hq (by rw [hm]; decide) (nlg1 (v := f) rfl hc) h
theorem j_astore_7_5 {a b c e f i j : Value} {x : Nat} (hdg : decode M.2.1 pc = .ok (.astore 5, 2)) (hq : pc + 2 = q) (hm : M.2.2.1 = 7) (hc : f.category = 1) (h : J g d M Z q [a, b, c, e, f, (.ref x), j] st σ) : J g d M Z pc [a, b, c, e, f, i, j] (.ref x :: st) σ := j_astore hdg hq (by rw [hm]; decide) (nlg1 (v := f) rfl hc) h
theorem j_iinc_7_5 {a b c e f j : Value} {x : Int32} {z : Int} (hdg : decode M.2.1 pc = .ok (.iinc 5 z, 3)) (hq : pc + 3 = q) (hm : M.2.2.1 = 7) (hc : f.category = 1) (h : J g d M Z q [a, b, c, e, f, .int (x + Int32.ofInt z), j] st σ) : J g d M Z pc [a, b, c, e, f, .int x, j] st σ := j_iinc hdg hq (x := x) rfl (by rw [hm]; decide) (nlg1 (v := f) rfl hc) h
theorem j_iincN_7_5 {a b c e f j : Value} {x : Nat} (hdg : decode M.2.1 pc = .ok (.iinc 5 1, 3)) (hq : pc + 3 = q) (hm : M.2.2.1 = 7) (hc : f.category = 1) (h : J g d M Z q [a, b, c, e, f, .int (nI (x + 1)), j] st σ) : J g d M Z pc [a, b, c, e, f, .int (nI x), j] st σ := j_iinc_7_5 hdg hq hm hc (by rw [show nI x + Int32.ofInt 1 = nI (x + 1) from nI_1 x]; exact h)
theorem j_istore_7_6 {a b c e f i j : Value} {x : Int32} (hdg : decode M.2.1 pc = .ok (.istore 6, 2)) (hq : pc + 2 = q) (hm : M.2.2.1 = 7) (hc : i.category = 1) (h : J g d M Z q [a, b, c, e, f, i, (.int x)] st σ) : J g d M Z pc [a, b, c, e, f, i, j] (.int x :: st) σ := j_istore hdg hq (by rw [hm]; decide) (nlg1 (v := i) rfl hc) h
theorem j_astore_7_6 {a b c e f i j : Value} {x : Nat} (hdg : decode M.2.1 pc = .ok (.astore 6, 2)) (hq : pc + 2 = q) (hm : M.2.2.1 = 7) (hc : i.category = 1) (h : J g d M Z q [a, b, c, e, f, i, (.ref x)] st σ) : J g d M Z pc [a, b, c, e, f, i, j] (.ref x :: st) σ := j_astore hdg hq (by rw [hm]; decide) (nlg1 (v := i) rfl hc) h
theorem j_iinc_7_6 {a b c e f i : Value} {x : Int32} {z : Int} (hdg : decode M.2.1 pc = .ok (.iinc 6 z, 3)) (hq : pc + 3 = q) (hm : M.2.2.1 = 7) (hc : i.category = 1) (h : J g d M Z q [a, b, c, e, f, i, .int (x + Int32.ofInt z)] st σ) : J g d M Z pc [a, b, c, e, f, i, .int x] st σ := j_iinc hdg hq (x := x) rfl (by rw [hm]; decide) (nlg1 (v := i) rfl hc) h
theorem j_iincN_7_6 {a b c e f i : Value} {x : Nat} (hdg : decode M.2.1 pc = .ok (.iinc 6 1, 3)) (hq : pc + 3 = q) (hm : M.2.2.1 = 7) (hc : i.category = 1) (h : J g d M Z q [a, b, c, e, f, i, .int (nI (x + 1))] st σ) : J g d M Z pc [a, b, c, e, f, i, .int (nI x)] st σ := j_iinc_7_6 hdg hq hm hc (by rw [show nI x + Int32.ofInt 1 = nI (x + 1) from nI_1 x]; exact h)
theorem j_istore_n_8_0 {a b c e f i j k : Value} {x : Int32} (hdg : decode M.2.1 pc = .ok (.istore_n 0, 1)) (hq : pc + 1 = q) (hm : M.2.2.1 = 8) (h : J g d M Z q [(.int x), b, c, e, f, i, j, k] st σ) : J g d M Z pc [a, b, c, e, f, i, j, k] (.int x :: st) σ := j_istore_n hdg hq (by rw [hm]; decide) nlg0 h
theorem j_astore_n_8_0 {a b c e f i j k : Value} {x : Nat} (hdg : decode M.2.1 pc = .ok (.astore_n 0, 1)) (hq : pc + 1 = q) (hm : M.2.2.1 = 8) (h : J g d M Z q [(.ref x), b, c, e, f, i, j, k] st σ) : J g d M Z pc [a, b, c, e, f, i, j, k] (.ref x :: st) σ := j_astore_n hdg hq (by rw [hm]; decide) nlg0 h
theorem j_iinc_8_0 {b c e f i j k : Value} {x : Int32} {z : Int} (hdg : decode M.2.1 pc = .ok (.iinc 0 z, 3)) (hq : pc + 3 = q) (hm : M.2.2.1 = 8) (h : J g d M Z q [.int (x + Int32.ofInt z), b, c, e, f, i, j, k] st σ) : J g d M Z pc [.int x, b, c, e, f, i, j, k] st σ := j_iinc hdg hq (x := x) rfl (by rw [hm]; decide) nlg0 h
theorem j_iincN_8_0 {b c e f i j k : Value} {x : Nat} (hdg : decode M.2.1 pc = .ok (.iinc 0 1, 3)) (hq : pc + 3 = q) (hm : M.2.2.1 = 8) (h : J g d M Z q [.int (nI (x + 1)), b, c, e, f, i, j, k] st σ) : J g d M Z pc [.int (nI x), b, c, e, f, i, j, k] st σ := j_iinc_8_0 hdg hq hm (by rw [show nI x + Int32.ofInt 1 = nI (x + 1) from nI_1 x]; exact h)
theorem j_istore_n_8_1 {a b c e f i j k : Value} {x : Int32} (hdg : decode M.2.1 pc = .ok (.istore_n 1, 1)) (hq : pc + 1 = q) (hm : M.2.2.1 = 8) (hc : a.category = 1) (h : J g d M Z q [a, (.int x), c, e, f, i, j, k] st σ) : J g d M Z pc [a, b, c, e, f, i, j, k] (.int x :: st) σ := j_istore_n hdg hq (by rw [hm]; decide) (nlg1 (v := a) rfl hc) h
theorem j_astore_n_8_1 {a b c e f i j k : Value} {x : Nat} (hdg : decode M.2.1 pc = .ok (.astore_n 1, 1)) (hq : pc + 1 = q) (hm : M.2.2.1 = 8) (hc : a.category = 1) (h : J g d M Z q [a, (.ref x), c, e, f, i, j, k] st σ) : J g d M Z pc [a, b, c, e, f, i, j, k] (.ref x :: st) σ := j_astore_n hdg hq (by rw [hm]; decide) (nlg1 (v := a) rfl hc) h
theorem j_iinc_8_1 {a c e f i j k : Value} {x : Int32} {z : Int} (hdg : decode M.2.1 pc = .ok (.iinc 1 z, 3)) (hq : pc + 3 = q) (hm : M.2.2.1 = 8) (hc : a.category = 1) (h : J g d M Z q [a, .int (x + Int32.ofInt z), c, e, f, i, j, k] st σ) : J g d M Z pc [a, .int x, c, e, f, i, j, k] st σ := j_iinc hdg hq (x := x) rfl (by rw [hm]; decide) (nlg1 (v := a) rfl hc) h
theorem j_iincN_8_1 {a c e f i j k : Value} {x : Nat} (hdg : decode M.2.1 pc = .ok (.iinc 1 1, 3)) (hq : pc + 3 = q) (hm : M.2.2.1 = 8) (hc : a.category = 1) (h : J g d M Z q [a, .int (nI (x + 1)), c, e, f, i, j, k] st σ) : J g d M Z pc [a, .int (nI x), c, e, f, i, j, k] st σ := j_iinc_8_1 hdg hq hm hc (by rw [show nI x + Int32.ofInt 1 = nI (x + 1) from nI_1 x]; exact h)
theorem j_istore_n_8_2 {a b c e f i j k : Value} {x : Int32} (hdg : decode M.2.1 pc = .ok (.istore_n 2, 1)) (hq : pc + 1 = q) (hm : M.2.2.1 = 8) (hc : b.category = 1) (h : J g d M Z q [a, b, (.int x), e, f, i, j, k] st σ) : J g d M Z pc [a, b, c, e, f, i, j, k] (.int x :: st) σ := j_istore_n hdg hq (by rw [hm]; decide) (nlg1 (v := b) rfl hc) h
theorem j_astore_n_8_2 {a b c e f i j k : Value} {x : Nat} (hdg : decode M.2.1 pc = .ok (.astore_n 2, 1)) (hq : pc + 1 = q) (hm : M.2.2.1 = 8) (hc : b.category = 1) (h : J g d M Z q [a, b, (.ref x), e, f, i, j, k] st σ) : J g d M Z pc [a, b, c, e, f, i, j, k] (.ref x :: st) σ := j_astore_n hdg hq (by rw [hm]; decide) (nlg1 (v := b) rfl hc) h
theorem j_iinc_8_2 {a b e f i j k : Value} {x : Int32} {z : Int} (hdg : decode M.2.1 pc = .ok (.iinc 2 z, 3)) (hq : pc + 3 = q) (hm : M.2.2.1 = 8) (hc : b.category = 1) (h : J g d M Z q [a, b, .int (x + Int32.ofInt z), e, f, i, j, k] st σ) : J g d M Z pc [a, b, .int x, e, f, i, j, k] st σ := j_iinc hdg hq (x := x) rfl (by rw [hm]; decide) (nlg1 (v := b) rfl hc) h
theorem j_iincN_8_2 {a b e f i j k : Value} {x : Nat} (hdg : decode M.2.1 pc = .ok (.iinc 2 1, 3)) (hq : pc + 3 = q) (hm : M.2.2.1 = 8) (hc : b.category = 1) (h : J g d M Z q [a, b, .int (nI (x + 1)), e, f, i, j, k] st σ) : J g d M Z pc [a, b, .int (nI x), e, f, i, j, k] st σ := j_iinc_8_2 hdg hq hm hc (by rw [show nI x + Int32.ofInt 1 = nI (x + 1) from nI_1 x]; exact h)
theorem j_istore_n_8_3 {a b c e f i j k : Value} {x : Int32} (hdg : decode M.2.1 pc = .ok (.istore_n 3, 1)) (hq : pc + 1 = q) (hm : M.2.2.1 = 8) (hc : c.category = 1) (h : J g d M Z q [a, b, c, (.int x), f, i, j, k] st σ) : J g d M Z pc [a, b, c, e, f, i, j, k] (.int x :: st) σ := j_istore_n hdg hq (by rw [hm]; decide) (nlg1 (v := c) rfl hc) h
theorem j_astore_n_8_3 {a b c e f i j k : Value} {x : Nat} (hdg : decode M.2.1 pc = .ok (.astore_n 3, 1)) (hq : pc + 1 = q) (hm : M.2.2.1 = 8) (hc : c.category = 1) (h : J g d M Z q [a, b, c, (.ref x), f, i, j, k] st σ) : J g d M Z pc [a, b, c, e, f, i, j, k] (.ref x :: st) σ := j_astore_n hdg hq (by rw [hm]; decide) (nlg1 (v := c) rfl hc) h
theorem j_iinc_8_3 {a b c f i j k : Value} {x : Int32} {z : Int} (hdg : decode M.2.1 pc = .ok (.iinc 3 z, 3)) (hq : pc + 3 = q) (hm : M.2.2.1 = 8) (hc : c.category = 1) (h : J g d M Z q [a, b, c, .int (x + Int32.ofInt z), f, i, j, k] st σ) : J g d M Z pc [a, b, c, .int x, f, i, j, k] st σ := j_iinc hdg hq (x := x) rfl (by rw [hm]; decide) (nlg1 (v := c) rfl hc) h
theorem j_iincN_8_3 {a b c f i j k : Value} {x : Nat} (hdg : decode M.2.1 pc = .ok (.iinc 3 1, 3)) (hq : pc + 3 = q) (hm : M.2.2.1 = 8) (hc : c.category = 1) (h : J g d M Z q [a, b, c, .int (nI (x + 1)), f, i, j, k] st σ) : J g d M Z pc [a, b, c, .int (nI x), f, i, j, k] st σ := j_iinc_8_3 hdg hq hm hc (by rw [show nI x + Int32.ofInt 1 = nI (x + 1) from nI_1 x]; exact h)
theorem j_istore_8_4 {a b c e f i j k : Value} {x : Int32} (hdg : decode M.2.1 pc = .ok (.istore 4, 2)) (hq : pc + 2 = q) (hm : M.2.2.1 = 8) (hc : e.category = 1) (h : J g d M Z q [a, b, c, e, (.int x), i, j, k] st σ) : J g d M Z pc [a, b, c, e, f, i, j, k] (.int x :: st) σ := j_istore hdg hq (by rw [hm]; decide) (nlg1 (v := e) rfl hc) h
theorem j_astore_8_4 {a b c e f i j k : Value} {x : Nat} (hdg : decode M.2.1 pc = .ok (.astore 4, 2)) (hq : pc + 2 = q) (hm : M.2.2.1 = 8) (hc : e.category = 1) (h : J g d M Z q [a, b, c, e, (.ref x), i, j, k] st σ) : J g d M Z pc [a, b, c, e, f, i, j, k] (.ref x :: st) σ := j_astore hdg hq (by rw [hm]; decide) (nlg1 (v := e) rfl hc) h
theorem j_iinc_8_4 {a b c e i j k : Value} {x : Int32} {z : Int} (hdg : decode M.2.1 pc = .ok (.iinc 4 z, 3)) (hq : pc + 3 = q) (hm : M.2.2.1 = 8) (hc : e.category = 1) (h : J g d M Z q [a, b, c, e, .int (x + Int32.ofInt z), i, j, k] st σ) : J g d M Z pc [a, b, c, e, .int x, i, j, k] st σ := j_iinc hdg hq (x := x) rfl (by rw [hm]; decide) (nlg1 (v := e) rfl hc) h
theorem j_iincN_8_4 {a b c e i j k : Value} {x : Nat} (hdg : decode M.2.1 pc = .ok (.iinc 4 1, 3)) (hq : pc + 3 = q) (hm : M.2.2.1 = 8) (hc : e.category = 1) (h : J g d M Z q [a, b, c, e, .int (nI (x + 1)), i, j, k] st σ) : J g d M Z pc [a, b, c, e, .int (nI x), i, j, k] st σ := j_iinc_8_4 hdg hq hm hc (by rw [show nI x + Int32.ofInt 1 = nI (x + 1) from nI_1 x]; exact h)
theorem j_istore_8_5 {a b c e f i j k : Value} {x : Int32} (hdg : decode M.2.1 pc = .ok (.istore 5, 2)) (hq : pc + 2 = q) (hm : M.2.2.1 = 8) (hc : f.category = 1) (h : J g d M Z q [a, b, c, e, f, (.int x), j, k] st σ) : J g d M Z pc [a, b, c, e, f, i, j, k] (.int x :: st) σ := j_istore hdg hq (by rw [hm]; decide) (nlg1 (v := f) rfl hc) h
theorem j_astore_8_5 {a b c e f i j k : Value} {x : Nat} (hdg : decode M.2.1 pc = .ok (.astore 5, 2)) (hq : pc + 2 = q) (hm : M.2.2.1 = 8) (hc : f.category = 1) (h : J g d M Z q [a, b, c, e, f, (.ref x), j, k] st σ) : J g d M Z pc [a, b, c, e, f, i, j, k] (.ref x :: st) σ := j_astore hdg hq (by rw [hm]; decide) (nlg1 (v := f) rfl hc) h
theorem j_iinc_8_5 {a b c e f j k : Value} {x : Int32} {z : Int} (hdg : decode M.2.1 pc = .ok (.iinc 5 z, 3)) (hq : pc + 3 = q) (hm : M.2.2.1 = 8) (hc : f.category = 1) (h : J g d M Z q [a, b, c, e, f, .int (x + Int32.ofInt z), j, k] st σ) : J g d M Z pc [a, b, c, e, f, .int x, j, k] st σ := j_iinc hdg hq (x := x) rfl (by rw [hm]; decide) (nlg1 (v := f) rfl hc) h
theorem j_iincN_8_5 {a b c e f j k : Value} {x : Nat} (hdg : decode M.2.1 pc = .ok (.iinc 5 1, 3)) (hq : pc + 3 = q) (hm : M.2.2.1 = 8) (hc : f.category = 1) (h : J g d M Z q [a, b, c, e, f, .int (nI (x + 1)), j, k] st σ) : J g d M Z pc [a, b, c, e, f, .int (nI x), j, k] st σ := j_iinc_8_5 hdg hq hm hc (by rw [show nI x + Int32.ofInt 1 = nI (x + 1) from nI_1 x]; exact h)
theorem j_istore_8_6 {a b c e f i j k : Value} {x : Int32} (hdg : decode M.2.1 pc = .ok (.istore 6, 2)) (hq : pc + 2 = q) (hm : M.2.2.1 = 8) (hc : i.category = 1) (h : J g d M Z q [a, b, c, e, f, i, (.int x), k] st σ) : J g d M Z pc [a, b, c, e, f, i, j, k] (.int x :: st) σ := j_istore hdg hq (by rw [hm]; decide) (nlg1 (v := i) rfl hc) h
theorem j_astore_8_6 {a b c e f i j k : Value} {x : Nat} (hdg : decode M.2.1 pc = .ok (.astore 6, 2)) (hq : pc + 2 = q) (hm : M.2.2.1 = 8) (hc : i.category = 1) (h : J g d M Z q [a, b, c, e, f, i, (.ref x), k] st σ) : J g d M Z pc [a, b, c, e, f, i, j, k] (.ref x :: st) σ := j_astore hdg hq (by rw [hm]; decide) (nlg1 (v := i) rfl hc) h
theorem j_iinc_8_6 {a b c e f i k : Value} {x : Int32} {z : Int} (hdg : decode M.2.1 pc = .ok (.iinc 6 z, 3)) (hq : pc + 3 = q) (hm : M.2.2.1 = 8) (hc : i.category = 1) (h : J g d M Z q [a, b, c, e, f, i, .int (x + Int32.ofInt z), k] st σ) : J g d M Z pc [a, b, c, e, f, i, .int x, k] st σ := j_iinc hdg hq (x := x) rfl (by rw [hm]; decide) (nlg1 (v := i) rfl hc) h
theorem j_iincN_8_6 {a b c e f i k : Value} {x : Nat} (hdg : decode M.2.1 pc = .ok (.iinc 6 1, 3)) (hq : pc + 3 = q) (hm : M.2.2.1 = 8) (hc : i.category = 1) (h : J g d M Z q [a, b, c, e, f, i, .int (nI (x + 1)), k] st σ) : J g d M Z pc [a, b, c, e, f, i, .int (nI x), k] st σ := j_iinc_8_6 hdg hq hm hc (by rw [show nI x + Int32.ofInt 1 = nI (x + 1) from nI_1 x]; exact h)
theorem j_istore_8_7 {a b c e f i j k : Value} {x : Int32} (hdg : decode M.2.1 pc = .ok (.istore 7, 2)) (hq : pc + 2 = q) (hm : M.2.2.1 = 8) (hc : j.category = 1) (h : J g d M Z q [a, b, c, e, f, i, j, (.int x)] st σ) : J g d M Z pc [a, b, c, e, f, i, j, k] (.int x :: st) σ := j_istore hdg hq (by rw [hm]; decide) (nlg1 (v := j) rfl hc) h
theorem j_astore_8_7 {a b c e f i j k : Value} {x : Nat} (hdg : decode M.2.1 pc = .ok (.astore 7, 2)) (hq : pc + 2 = q) (hm : M.2.2.1 = 8) (hc : j.category = 1) (h : J g d M Z q [a, b, c, e, f, i, j, (.ref x)] st σ) : J g d M Z pc [a, b, c, e, f, i, j, k] (.ref x :: st) σ := j_astore hdg hq (by rw [hm]; decide) (nlg1 (v := j) rfl hc) h
theorem j_iinc_8_7 {a b c e f i j : Value} {x : Int32} {z : Int} (hdg : decode M.2.1 pc = .ok (.iinc 7 z, 3)) (hq : pc + 3 = q) (hm : M.2.2.1 = 8) (hc : j.category = 1) (h : J g d M Z q [a, b, c, e, f, i, j, .int (x + Int32.ofInt z)] st σ) : J g d M Z pc [a, b, c, e, f, i, j, .int x] st σ := j_iinc hdg hq (x := x) rfl (by rw [hm]; decide) (nlg1 (v := j) rfl hc) h
theorem j_iincN_8_7 {a b c e f i j : Value} {x : Nat} (hdg : decode M.2.1 pc = .ok (.iinc 7 1, 3)) (hq : pc + 3 = q) (hm : M.2.2.1 = 8) (hc : j.category = 1) (h : J g d M Z q [a, b, c, e, f, i, j, .int (nI (x + 1))] st σ) : J g d M Z pc [a, b, c, e, f, i, j, .int (nI x)] st σ := j_iinc_8_7 hdg hq hm hc (by rw [show nI x + Int32.ofInt 1 = nI (x + 1) from nI_1 x]; exact h)
theorem j_istore_n_9_0 {a b c e f i j k m : Value} {x : Int32} (hdg : decode M.2.1 pc = .ok (.istore_n 0, 1)) (hq : pc + 1 = q) (hm : M.2.2.1 = 9) (h : J g d M Z q [(.int x), b, c, e, f, i, j, k, m] st σ) : J g d M Z pc [a, b, c, e, f, i, j, k, m] (.int x :: st) σ := j_istore_n hdg hq (by rw [hm]; decide) nlg0 h
theorem j_astore_n_9_0 {a b c e f i j k m : Value} {x : Nat} (hdg : decode M.2.1 pc = .ok (.astore_n 0, 1)) (hq : pc + 1 = q) (hm : M.2.2.1 = 9) (h : J g d M Z q [(.ref x), b, c, e, f, i, j, k, m] st σ) : J g d M Z pc [a, b, c, e, f, i, j, k, m] (.ref x :: st) σ := j_astore_n hdg hq (by rw [hm]; decide) nlg0 h
theorem j_iinc_9_0 {b c e f i j k m : Value} {x : Int32} {z : Int} (hdg : decode M.2.1 pc = .ok (.iinc 0 z, 3)) (hq : pc + 3 = q) (hm : M.2.2.1 = 9) (h : J g d M Z q [.int (x + Int32.ofInt z), b, c, e, f, i, j, k, m] st σ) : J g d M Z pc [.int x, b, c, e, f, i, j, k, m] st σ := j_iinc hdg hq (x := x) rfl (by rw [hm]; decide) nlg0 h
theorem j_iincN_9_0 {b c e f i j k m : Value} {x : Nat} (hdg : decode M.2.1 pc = .ok (.iinc 0 1, 3)) (hq : pc + 3 = q) (hm : M.2.2.1 = 9) (h : J g d M Z q [.int (nI (x + 1)), b, c, e, f, i, j, k, m] st σ) : J g d M Z pc [.int (nI x), b, c, e, f, i, j, k, m] st σ := j_iinc_9_0 hdg hq hm (by rw [show nI x + Int32.ofInt 1 = nI (x + 1) from nI_1 x]; exact h)
theorem j_istore_n_9_1 {a b c e f i j k m : Value} {x : Int32} (hdg : decode M.2.1 pc = .ok (.istore_n 1, 1)) (hq : pc + 1 = q) (hm : M.2.2.1 = 9) (hc : a.category = 1) (h : J g d M Z q [a, (.int x), c, e, f, i, j, k, m] st σ) : J g d M Z pc [a, b, c, e, f, i, j, k, m] (.int x :: st) σ := j_istore_n hdg hq (by rw [hm]; decide) (nlg1 (v := a) rfl hc) h
theorem j_astore_n_9_1 {a b c e f i j k m : Value} {x : Nat} (hdg : decode M.2.1 pc = .ok (.astore_n 1, 1)) (hq : pc + 1 = q) (hm : M.2.2.1 = 9) (hc : a.category = 1) (h : J g d M Z q [a, (.ref x), c, e, f, i, j, k, m] st σ) : J g d M Z pc [a, b, c, e, f, i, j, k, m] (.ref x :: st) σ := j_astore_n hdg hq (by rw [hm]; decide) (nlg1 (v := a) rfl hc) h
theorem j_iinc_9_1 {a c e f i j k m : Value} {x : Int32} {z : Int} (hdg : decode M.2.1 pc = .ok (.iinc 1 z, 3)) (hq : pc + 3 = q) (hm : M.2.2.1 = 9) (hc : a.category = 1) (h : J g d M Z q [a, .int (x + Int32.ofInt z), c, e, f, i, j, k, m] st σ) : J g d M Z pc [a, .int x, c, e, f, i, j, k, m] st σ := j_iinc hdg hq (x := x) rfl (by rw [hm]; decide) (nlg1 (v := a) rfl hc) h
theorem j_iincN_9_1 {a c e f i j k m : Value} {x : Nat} (hdg : decode M.2.1 pc = .ok (.iinc 1 1, 3)) (hq : pc + 3 = q) (hm : M.2.2.1 = 9) (hc : a.category = 1) (h : J g d M Z q [a, .int (nI (x + 1)), c, e, f, i, j, k, m] st σ) : J g d M Z pc [a, .int (nI x), c, e, f, i, j, k, m] st σ := j_iinc_9_1 hdg hq hm hc (by rw [show nI x + Int32.ofInt 1 = nI (x + 1) from nI_1 x]; exact h)
theorem j_istore_n_9_2 {a b c e f i j k m : Value} {x : Int32} (hdg : decode M.2.1 pc = .ok (.istore_n 2, 1)) (hq : pc + 1 = q) (hm : M.2.2.1 = 9) (hc : b.category = 1) (h : J g d M Z q [a, b, (.int x), e, f, i, j, k, m] st σ) : J g d M Z pc [a, b, c, e, f, i, j, k, m] (.int x :: st) σ := j_istore_n hdg hq (by rw [hm]; decide) (nlg1 (v := b) rfl hc) h
theorem j_astore_n_9_2 {a b c e f i j k m : Value} {x : Nat} (hdg : decode M.2.1 pc = .ok (.astore_n 2, 1)) (hq : pc + 1 = q) (hm : M.2.2.1 = 9) (hc : b.category = 1) (h : J g d M Z q [a, b, (.ref x), e, f, i, j, k, m] st σ) : J g d M Z pc [a, b, c, e, f, i, j, k, m] (.ref x :: st) σ := j_astore_n hdg hq (by rw [hm]; decide) (nlg1 (v := b) rfl hc) h
theorem j_iinc_9_2 {a b e f i j k m : Value} {x : Int32} {z : Int} (hdg : decode M.2.1 pc = .ok (.iinc 2 z, 3)) (hq : pc + 3 = q) (hm : M.2.2.1 = 9) (hc : b.category = 1) (h : J g d M Z q [a, b, .int (x + Int32.ofInt z), e, f, i, j, k, m] st σ) : J g d M Z pc [a, b, .int x, e, f, i, j, k, m] st σ := j_iinc hdg hq (x := x) rfl (by rw [hm]; decide) (nlg1 (v := b) rfl hc) h
theorem j_iincN_9_2 {a b e f i j k m : Value} {x : Nat} (hdg : decode M.2.1 pc = .ok (.iinc 2 1, 3)) (hq : pc + 3 = q) (hm : M.2.2.1 = 9) (hc : b.category = 1) (h : J g d M Z q [a, b, .int (nI (x + 1)), e, f, i, j, k, m] st σ) : J g d M Z pc [a, b, .int (nI x), e, f, i, j, k, m] st σ := j_iinc_9_2 hdg hq hm hc (by rw [show nI x + Int32.ofInt 1 = nI (x + 1) from nI_1 x]; exact h)
theorem j_istore_n_9_3 {a b c e f i j k m : Value} {x : Int32} (hdg : decode M.2.1 pc = .ok (.istore_n 3, 1)) (hq : pc + 1 = q) (hm : M.2.2.1 = 9) (hc : c.category = 1) (h : J g d M Z q [a, b, c, (.int x), f, i, j, k, m] st σ) : J g d M Z pc [a, b, c, e, f, i, j, k, m] (.int x :: st) σ := j_istore_n hdg hq (by rw [hm]; decide) (nlg1 (v := c) rfl hc) h
theorem j_astore_n_9_3 {a b c e f i j k m : Value} {x : Nat} (hdg : decode M.2.1 pc = .ok (.astore_n 3, 1)) (hq : pc + 1 = q) (hm : M.2.2.1 = 9) (hc : c.category = 1) (h : J g d M Z q [a, b, c, (.ref x), f, i, j, k, m] st σ) : J g d M Z pc [a, b, c, e, f, i, j, k, m] (.ref x :: st) σ := j_astore_n hdg hq (by rw [hm]; decide) (nlg1 (v := c) rfl hc) h
theorem j_iinc_9_3 {a b c f i j k m : Value} {x : Int32} {z : Int} (hdg : decode M.2.1 pc = .ok (.iinc 3 z, 3)) (hq : pc + 3 = q) (hm : M.2.2.1 = 9) (hc : c.category = 1) (h : J g d M Z q [a, b, c, .int (x + Int32.ofInt z), f, i, j, k, m] st σ) : J g d M Z pc [a, b, c, .int x, f, i, j, k, m] st σ := j_iinc hdg hq (x := x) rfl (by rw [hm]; decide) (nlg1 (v := c) rfl hc) h
theorem j_iincN_9_3 {a b c f i j k m : Value} {x : Nat} (hdg : decode M.2.1 pc = .ok (.iinc 3 1, 3)) (hq : pc + 3 = q) (hm : M.2.2.1 = 9) (hc : c.category = 1) (h : J g d M Z q [a, b, c, .int (nI (x + 1)), f, i, j, k, m] st σ) : J g d M Z pc [a, b, c, .int (nI x), f, i, j, k, m] st σ := j_iinc_9_3 hdg hq hm hc (by rw [show nI x + Int32.ofInt 1 = nI (x + 1) from nI_1 x]; exact h)
theorem j_istore_9_4 {a b c e f i j k m : Value} {x : Int32} (hdg : decode M.2.1 pc = .ok (.istore 4, 2)) (hq : pc + 2 = q) (hm : M.2.2.1 = 9) (hc : e.category = 1) (h : J g d M Z q [a, b, c, e, (.int x), i, j, k, m] st σ) : J g d M Z pc [a, b, c, e, f, i, j, k, m] (.int x :: st) σ := j_istore hdg hq (by rw [hm]; decide) (nlg1 (v := e) rfl hc) h
theorem j_astore_9_4 {a b c e f i j k m : Value} {x : Nat} (hdg : decode M.2.1 pc = .ok (.astore 4, 2)) (hq : pc + 2 = q) (hm : M.2.2.1 = 9) (hc : e.category = 1) (h : J g d M Z q [a, b, c, e, (.ref x), i, j, k, m] st σ) : J g d M Z pc [a, b, c, e, f, i, j, k, m] (.ref x :: st) σ := j_astore hdg hq (by rw [hm]; decide) (nlg1 (v := e) rfl hc) h
theorem j_iinc_9_4 {a b c e i j k m : Value} {x : Int32} {z : Int} (hdg : decode M.2.1 pc = .ok (.iinc 4 z, 3)) (hq : pc + 3 = q) (hm : M.2.2.1 = 9) (hc : e.category = 1) (h : J g d M Z q [a, b, c, e, .int (x + Int32.ofInt z), i, j, k, m] st σ) : J g d M Z pc [a, b, c, e, .int x, i, j, k, m] st σ := j_iinc hdg hq (x := x) rfl (by rw [hm]; decide) (nlg1 (v := e) rfl hc) h
theorem j_iincN_9_4 {a b c e i j k m : Value} {x : Nat} (hdg : decode M.2.1 pc = .ok (.iinc 4 1, 3)) (hq : pc + 3 = q) (hm : M.2.2.1 = 9) (hc : e.category = 1) (h : J g d M Z q [a, b, c, e, .int (nI (x + 1)), i, j, k, m] st σ) : J g d M Z pc [a, b, c, e, .int (nI x), i, j, k, m] st σ := j_iinc_9_4 hdg hq hm hc (by rw [show nI x + Int32.ofInt 1 = nI (x + 1) from nI_1 x]; exact h)
theorem j_istore_9_5 {a b c e f i j k m : Value} {x : Int32} (hdg : decode M.2.1 pc = .ok (.istore 5, 2)) (hq : pc + 2 = q) (hm : M.2.2.1 = 9) (hc : f.category = 1) (h : J g d M Z q [a, b, c, e, f, (.int x), j, k, m] st σ) : J g d M Z pc [a, b, c, e, f, i, j, k, m] (.int x :: st) σ := j_istore hdg hq (by rw [hm]; decide) (nlg1 (v := f) rfl hc) h
theorem j_astore_9_5 {a b c e f i j k m : Value} {x : Nat} (hdg : decode M.2.1 pc = .ok (.astore 5, 2)) (hq : pc + 2 = q) (hm : M.2.2.1 = 9) (hc : f.category = 1) (h : J g d M Z q [a, b, c, e, f, (.ref x), j, k, m] st σ) : J g d M Z pc [a, b, c, e, f, i, j, k, m] (.ref x :: st) σ := j_astore hdg hq (by rw [hm]; decide) (nlg1 (v := f) rfl hc) h
theorem j_iinc_9_5 {a b c e f j k m : Value} {x : Int32} {z : Int} (hdg : decode M.2.1 pc = .ok (.iinc 5 z, 3)) (hq : pc + 3 = q) (hm : M.2.2.1 = 9) (hc : f.category = 1) (h : J g d M Z q [a, b, c, e, f, .int (x + Int32.ofInt z), j, k, m] st σ) : J g d M Z pc [a, b, c, e, f, .int x, j, k, m] st σ := j_iinc hdg hq (x := x) rfl (by rw [hm]; decide) (nlg1 (v := f) rfl hc) h
theorem j_iincN_9_5 {a b c e f j k m : Value} {x : Nat} (hdg : decode M.2.1 pc = .ok (.iinc 5 1, 3)) (hq : pc + 3 = q) (hm : M.2.2.1 = 9) (hc : f.category = 1) (h : J g d M Z q [a, b, c, e, f, .int (nI (x + 1)), j, k, m] st σ) : J g d M Z pc [a, b, c, e, f, .int (nI x), j, k, m] st σ := j_iinc_9_5 hdg hq hm hc (by rw [show nI x + Int32.ofInt 1 = nI (x + 1) from nI_1 x]; exact h)
theorem j_istore_9_6 {a b c e f i j k m : Value} {x : Int32} (hdg : decode M.2.1 pc = .ok (.istore 6, 2)) (hq : pc + 2 = q) (hm : M.2.2.1 = 9) (hc : i.category = 1) (h : J g d M Z q [a, b, c, e, f, i, (.int x), k, m] st σ) : J g d M Z pc [a, b, c, e, f, i, j, k, m] (.int x :: st) σ := j_istore hdg hq (by rw [hm]; decide) (nlg1 (v := i) rfl hc) h
theorem j_astore_9_6 {a b c e f i j k m : Value} {x : Nat} (hdg : decode M.2.1 pc = .ok (.astore 6, 2)) (hq : pc + 2 = q) (hm : M.2.2.1 = 9) (hc : i.category = 1) (h : J g d M Z q [a, b, c, e, f, i, (.ref x), k, m] st σ) : J g d M Z pc [a, b, c, e, f, i, j, k, m] (.ref x :: st) σ := j_astore hdg hq (by rw [hm]; decide) (nlg1 (v := i) rfl hc) h
theorem j_iinc_9_6 {a b c e f i k m : Value} {x : Int32} {z : Int} (hdg : decode M.2.1 pc = .ok (.iinc 6 z, 3)) (hq : pc + 3 = q) (hm : M.2.2.1 = 9) (hc : i.category = 1) (h : J g d M Z q [a, b, c, e, f, i, .int (x + Int32.ofInt z), k, m] st σ) : J g d M Z pc [a, b, c, e, f, i, .int x, k, m] st σ := j_iinc hdg hq (x := x) rfl (by rw [hm]; decide) (nlg1 (v := i) rfl hc) h
theorem j_iincN_9_6 {a b c e f i k m : Value} {x : Nat} (hdg : decode M.2.1 pc = .ok (.iinc 6 1, 3)) (hq : pc + 3 = q) (hm : M.2.2.1 = 9) (hc : i.category = 1) (h : J g d M Z q [a, b, c, e, f, i, .int (nI (x + 1)), k, m] st σ) : J g d M Z pc [a, b, c, e, f, i, .int (nI x), k, m] st σ := j_iinc_9_6 hdg hq hm hc (by rw [show nI x + Int32.ofInt 1 = nI (x + 1) from nI_1 x]; exact h)
theorem j_istore_9_7 {a b c e f i j k m : Value} {x : Int32} (hdg : decode M.2.1 pc = .ok (.istore 7, 2)) (hq : pc + 2 = q) (hm : M.2.2.1 = 9) (hc : j.category = 1) (h : J g d M Z q [a, b, c, e, f, i, j, (.int x), m] st σ) : J g d M Z pc [a, b, c, e, f, i, j, k, m] (.int x :: st) σ := j_istore hdg hq (by rw [hm]; decide) (nlg1 (v := j) rfl hc) h
theorem j_astore_9_7 {a b c e f i j k m : Value} {x : Nat} (hdg : decode M.2.1 pc = .ok (.astore 7, 2)) (hq : pc + 2 = q) (hm : M.2.2.1 = 9) (hc : j.category = 1) (h : J g d M Z q [a, b, c, e, f, i, j, (.ref x), m] st σ) : J g d M Z pc [a, b, c, e, f, i, j, k, m] (.ref x :: st) σ := j_astore hdg hq (by rw [hm]; decide) (nlg1 (v := j) rfl hc) h
theorem j_iinc_9_7 {a b c e f i j m : Value} {x : Int32} {z : Int} (hdg : decode M.2.1 pc = .ok (.iinc 7 z, 3)) (hq : pc + 3 = q) (hm : M.2.2.1 = 9) (hc : j.category = 1) (h : J g d M Z q [a, b, c, e, f, i, j, .int (x + Int32.ofInt z), m] st σ) : J g d M Z pc [a, b, c, e, f, i, j, .int x, m] st σ := j_iinc hdg hq (x := x) rfl (by rw [hm]; decide) (nlg1 (v := j) rfl hc) h
theorem j_iincN_9_7 {a b c e f i j m : Value} {x : Nat} (hdg : decode M.2.1 pc = .ok (.iinc 7 1, 3)) (hq : pc + 3 = q) (hm : M.2.2.1 = 9) (hc : j.category = 1) (h : J g d M Z q [a, b, c, e, f, i, j, .int (nI (x + 1)), m] st σ) : J g d M Z pc [a, b, c, e, f, i, j, .int (nI x), m] st σ := j_iinc_9_7 hdg hq hm hc (by rw [show nI x + Int32.ofInt 1 = nI (x + 1) from nI_1 x]; exact h)
theorem j_istore_9_8 {a b c e f i j k m : Value} {x : Int32} (hdg : decode M.2.1 pc = .ok (.istore 8, 2)) (hq : pc + 2 = q) (hm : M.2.2.1 = 9) (hc : k.category = 1) (h : J g d M Z q [a, b, c, e, f, i, j, k, (.int x)] st σ) : J g d M Z pc [a, b, c, e, f, i, j, k, m] (.int x :: st) σ := j_istore hdg hq (by rw [hm]; decide) (nlg1 (v := k) rfl hc) h
theorem j_astore_9_8 {a b c e f i j k m : Value} {x : Nat} (hdg : decode M.2.1 pc = .ok (.astore 8, 2)) (hq : pc + 2 = q) (hm : M.2.2.1 = 9) (hc : k.category = 1) (h : J g d M Z q [a, b, c, e, f, i, j, k, (.ref x)] st σ) : J g d M Z pc [a, b, c, e, f, i, j, k, m] (.ref x :: st) σ := j_astore hdg hq (by rw [hm]; decide) (nlg1 (v := k) rfl hc) h
theorem j_iinc_9_8 {a b c e f i j k : Value} {x : Int32} {z : Int} (hdg : decode M.2.1 pc = .ok (.iinc 8 z, 3)) (hq : pc + 3 = q) (hm : M.2.2.1 = 9) (hc : k.category = 1) (h : J g d M Z q [a, b, c, e, f, i, j, k, .int (x + Int32.ofInt z)] st σ) : J g d M Z pc [a, b, c, e, f, i, j, k, .int x] st σ := j_iinc hdg hq (x := x) rfl (by rw [hm]; decide) (nlg1 (v := k) rfl hc) h
theorem j_iincN_9_8 {a b c e f i j k : Value} {x : Nat} (hdg : decode M.2.1 pc = .ok (.iinc 8 1, 3)) (hq : pc + 3 = q) (hm : M.2.2.1 = 9) (hc : k.category = 1) (h : J g d M Z q [a, b, c, e, f, i, j, k, .int (nI (x + 1))] st σ) : J g d M Z pc [a, b, c, e, f, i, j, k, .int (nI x)] st σ := j_iinc_9_8 hdg hq hm hc (by rw [show nI x + Int32.ofInt 1 = nI (x + 1) from nI_1 x]; exact h)
theorem j_tsw_1_6 {x : Int32} {len : Nat} {dd o0 o1 o2 o3 o4 o5 : Int} {td t0 t1 t2 t3 t4 t5 : Nat} (hdg : decode M.2.1 pc = .ok (.tableswitch dd 1 6 #[o0, o1, o2, o3, o4, o5], len)) (hd : (pc : Int) + dd = (td : Int)) (h0 : (pc : Int) + o0 = (t0 : Int)) (h1 : (pc : Int) + o1 = (t1 : Int)) (h2 : (pc : Int) + o2 = (t2 : Int)) (h3 : (pc : Int) + o3 = (t3 : Int)) (h4 : (pc : Int) + o4 = (t4 : Int)) (h5 : (pc : Int) + o5 = (t5 : Int)) (k0 : x = 1 → J g d M Z t0 ls st σ) (k1 : x = 2 → J g d M Z t1 ls st σ) (k2 : x = 3 → J g d M Z t2 ls st σ) (k3 : x = 4 → J g d M Z t3 ls st σ) (k4 : x = 5 → J g d M Z t4 ls st σ) (k5 : x = 6 → J g d M Z t5 ls st σ) (kd : ¬ x = 1 → ¬ x = 2 → ¬ x = 3 → ¬ x = 4 → ¬ x = 5 → ¬ x = 6 → J g d M Z td ls st σ) : J g d M Z pc ls (.int x :: st) σ := by
  by_cases e0 : x = 1
  · intro p e R s m args below meth c H locs cells slots Q arr C hS hP hv K
    subst e0
    exact lv_tableIn C.1 C.2.1 hdg (by decide) (by decide) (off := o0) rfl h0 (k0 rfl p e R s m args below meth c H locs cells slots Q arr C hS hP hv K)
  by_cases e1 : x = 2
  · intro p e R s m args below meth c H locs cells slots Q arr C hS hP hv K
    subst e1
    exact lv_tableIn C.1 C.2.1 hdg (by decide) (by decide) (off := o1) rfl h1 (k1 rfl p e R s m args below meth c H locs cells slots Q arr C hS hP hv K)
  by_cases e2 : x = 3
  · intro p e R s m args below meth c H locs cells slots Q arr C hS hP hv K
    subst e2
    exact lv_tableIn C.1 C.2.1 hdg (by decide) (by decide) (off := o2) rfl h2 (k2 rfl p e R s m args below meth c H locs cells slots Q arr C hS hP hv K)
  by_cases e3 : x = 4
  · intro p e R s m args below meth c H locs cells slots Q arr C hS hP hv K
    subst e3
    exact lv_tableIn C.1 C.2.1 hdg (by decide) (by decide) (off := o3) rfl h3 (k3 rfl p e R s m args below meth c H locs cells slots Q arr C hS hP hv K)
  by_cases e4 : x = 5
  · intro p e R s m args below meth c H locs cells slots Q arr C hS hP hv K
    subst e4
    exact lv_tableIn C.1 C.2.1 hdg (by decide) (by decide) (off := o4) rfl h4 (k4 rfl p e R s m args below meth c H locs cells slots Q arr C hS hP hv K)
  by_cases e5 : x = 6
  · intro p e R s m args below meth c H locs cells slots Q arr C hS hP hv K
    subst e5
    exact lv_tableIn C.1 C.2.1 hdg (by decide) (by decide) (off := o5) rfl h5 (k5 rfl p e R s m args below meth c H locs cells slots Q arr C hS hP hv K)
  intro p e R s m args below meth c H locs cells slots Q arr C hS hP hv K
  refine lv_tableOut C.1 C.2.1 hdg ?_ hd (kd e0 e1 e2 e3 e4 e5 p e R s m args below meth c H locs cells slots Q arr C hS hP hv K)
  have f0 : x.toInt ≠ 1 := fun z => e0 (Int32.toInt_inj.mp z)
  have f1 : x.toInt ≠ 2 := fun z => e1 (Int32.toInt_inj.mp z)
  have f2 : x.toInt ≠ 3 := fun z => e2 (Int32.toInt_inj.mp z)
  have f3 : x.toInt ≠ 4 := fun z => e3 (Int32.toInt_inj.mp z)
  have f4 : x.toInt ≠ 5 := fun z => e4 (Int32.toInt_inj.mp z)
  have f5 : x.toInt ≠ 6 := fun z => e5 (Int32.toInt_inj.mp z)
  omega
theorem j_tsw_2_6 {x : Int32} {len : Nat} {dd o0 o1 o2 o3 o4 : Int} {td t0 t1 t2 t3 t4 : Nat} (hdg : decode M.2.1 pc = .ok (.tableswitch dd 2 6 #[o0, o1, o2, o3, o4], len)) (hd : (pc : Int) + dd = (td : Int)) (h0 : (pc : Int) + o0 = (t0 : Int)) (h1 : (pc : Int) + o1 = (t1 : Int)) (h2 : (pc : Int) + o2 = (t2 : Int)) (h3 : (pc : Int) + o3 = (t3 : Int)) (h4 : (pc : Int) + o4 = (t4 : Int)) (k0 : x = 2 → J g d M Z t0 ls st σ) (k1 : x = 3 → J g d M Z t1 ls st σ) (k2 : x = 4 → J g d M Z t2 ls st σ) (k3 : x = 5 → J g d M Z t3 ls st σ) (k4 : x = 6 → J g d M Z t4 ls st σ) (kd : ¬ x = 2 → ¬ x = 3 → ¬ x = 4 → ¬ x = 5 → ¬ x = 6 → J g d M Z td ls st σ) : J g d M Z pc ls (.int x :: st) σ := by
  by_cases e0 : x = 2
  · intro p e R s m args below meth c H locs cells slots Q arr C hS hP hv K
    subst e0
    exact lv_tableIn C.1 C.2.1 hdg (by decide) (by decide) (off := o0) rfl h0 (k0 rfl p e R s m args below meth c H locs cells slots Q arr C hS hP hv K)
  by_cases e1 : x = 3
  · intro p e R s m args below meth c H locs cells slots Q arr C hS hP hv K
    subst e1
    exact lv_tableIn C.1 C.2.1 hdg (by decide) (by decide) (off := o1) rfl h1 (k1 rfl p e R s m args below meth c H locs cells slots Q arr C hS hP hv K)
  by_cases e2 : x = 4
  · intro p e R s m args below meth c H locs cells slots Q arr C hS hP hv K
    subst e2
    exact lv_tableIn C.1 C.2.1 hdg (by decide) (by decide) (off := o2) rfl h2 (k2 rfl p e R s m args below meth c H locs cells slots Q arr C hS hP hv K)
  by_cases e3 : x = 5
  · intro p e R s m args below meth c H locs cells slots Q arr C hS hP hv K
    subst e3
    exact lv_tableIn C.1 C.2.1 hdg (by decide) (by decide) (off := o3) rfl h3 (k3 rfl p e R s m args below meth c H locs cells slots Q arr C hS hP hv K)
  by_cases e4 : x = 6
  · intro p e R s m args below meth c H locs cells slots Q arr C hS hP hv K
    subst e4
    exact lv_tableIn C.1 C.2.1 hdg (by decide) (by decide) (off := o4) rfl h4 (k4 rfl p e R s m args below meth c H locs cells slots Q arr C hS hP hv K)
  intro p e R s m args below meth c H locs cells slots Q arr C hS hP hv K
  refine lv_tableOut C.1 C.2.1 hdg ?_ hd (kd e0 e1 e2 e3 e4 p e R s m args below meth c H locs cells slots Q arr C hS hP hv K)
  have f0 : x.toInt ≠ 2 := fun z => e0 (Int32.toInt_inj.mp z)
  have f1 : x.toInt ≠ 3 := fun z => e1 (Int32.toInt_inj.mp z)
  have f2 : x.toInt ≠ 4 := fun z => e2 (Int32.toInt_inj.mp z)
  have f3 : x.toInt ≠ 5 := fun z => e3 (Int32.toInt_inj.mp z)
  have f4 : x.toInt ≠ 6 := fun z => e4 (Int32.toInt_inj.mp z)
  omega
theorem j_lsw_37_38_42_43_45_47_60_61_62_124 {x : Int32} {len : Nat} {dd o0 o1 o2 o3 o4 o5 o6 o7 o8 o9 : Int} {td t0 t1 t2 t3 t4 t5 t6 t7 t8 t9 : Nat} (hdg : decode M.2.1 pc = .ok (.lookupswitch dd #[(37, o0), (38, o1), (42, o2), (43, o3), (45, o4), (47, o5), (60, o6), (61, o7), (62, o8), (124, o9)], len)) (hd : (pc : Int) + dd = (td : Int)) (h0 : (pc : Int) + o0 = (t0 : Int)) (h1 : (pc : Int) + o1 = (t1 : Int)) (h2 : (pc : Int) + o2 = (t2 : Int)) (h3 : (pc : Int) + o3 = (t3 : Int)) (h4 : (pc : Int) + o4 = (t4 : Int)) (h5 : (pc : Int) + o5 = (t5 : Int)) (h6 : (pc : Int) + o6 = (t6 : Int)) (h7 : (pc : Int) + o7 = (t7 : Int)) (h8 : (pc : Int) + o8 = (t8 : Int)) (h9 : (pc : Int) + o9 = (t9 : Int)) (k0 : x = 37 → J g d M Z t0 ls st σ) (k1 : x = 38 → J g d M Z t1 ls st σ) (k2 : x = 42 → J g d M Z t2 ls st σ) (k3 : x = 43 → J g d M Z t3 ls st σ) (k4 : x = 45 → J g d M Z t4 ls st σ) (k5 : x = 47 → J g d M Z t5 ls st σ) (k6 : x = 60 → J g d M Z t6 ls st σ) (k7 : x = 61 → J g d M Z t7 ls st σ) (k8 : x = 62 → J g d M Z t8 ls st σ) (k9 : x = 124 → J g d M Z t9 ls st σ) (kd : ¬ x = 37 → ¬ x = 38 → ¬ x = 42 → ¬ x = 43 → ¬ x = 45 → ¬ x = 47 → ¬ x = 60 → ¬ x = 61 → ¬ x = 62 → ¬ x = 124 → J g d M Z td ls st σ) : J g d M Z pc ls (.int x :: st) σ := by
  by_cases e0 : x = 37
  · intro p e R s m args below meth c H locs cells slots Q arr C hS hP hv K
    subst e0
    exact lv_lookup C.1 C.2.1 hdg rfl (off := o0) rfl h0 (k0 rfl p e R s m args below meth c H locs cells slots Q arr C hS hP hv K)
  by_cases e1 : x = 38
  · intro p e R s m args below meth c H locs cells slots Q arr C hS hP hv K
    subst e1
    exact lv_lookup C.1 C.2.1 hdg rfl (off := o1) rfl h1 (k1 rfl p e R s m args below meth c H locs cells slots Q arr C hS hP hv K)
  by_cases e2 : x = 42
  · intro p e R s m args below meth c H locs cells slots Q arr C hS hP hv K
    subst e2
    exact lv_lookup C.1 C.2.1 hdg rfl (off := o2) rfl h2 (k2 rfl p e R s m args below meth c H locs cells slots Q arr C hS hP hv K)
  by_cases e3 : x = 43
  · intro p e R s m args below meth c H locs cells slots Q arr C hS hP hv K
    subst e3
    exact lv_lookup C.1 C.2.1 hdg rfl (off := o3) rfl h3 (k3 rfl p e R s m args below meth c H locs cells slots Q arr C hS hP hv K)
  by_cases e4 : x = 45
  · intro p e R s m args below meth c H locs cells slots Q arr C hS hP hv K
    subst e4
    exact lv_lookup C.1 C.2.1 hdg rfl (off := o4) rfl h4 (k4 rfl p e R s m args below meth c H locs cells slots Q arr C hS hP hv K)
  by_cases e5 : x = 47
  · intro p e R s m args below meth c H locs cells slots Q arr C hS hP hv K
    subst e5
    exact lv_lookup C.1 C.2.1 hdg rfl (off := o5) rfl h5 (k5 rfl p e R s m args below meth c H locs cells slots Q arr C hS hP hv K)
  by_cases e6 : x = 60
  · intro p e R s m args below meth c H locs cells slots Q arr C hS hP hv K
    subst e6
    exact lv_lookup C.1 C.2.1 hdg rfl (off := o6) rfl h6 (k6 rfl p e R s m args below meth c H locs cells slots Q arr C hS hP hv K)
  by_cases e7 : x = 61
  · intro p e R s m args below meth c H locs cells slots Q arr C hS hP hv K
    subst e7
    exact lv_lookup C.1 C.2.1 hdg rfl (off := o7) rfl h7 (k7 rfl p e R s m args below meth c H locs cells slots Q arr C hS hP hv K)
  by_cases e8 : x = 62
  · intro p e R s m args below meth c H locs cells slots Q arr C hS hP hv K
    subst e8
    exact lv_lookup C.1 C.2.1 hdg rfl (off := o8) rfl h8 (k8 rfl p e R s m args below meth c H locs cells slots Q arr C hS hP hv K)
  by_cases e9 : x = 124
  · intro p e R s m args below meth c H locs cells slots Q arr C hS hP hv K
    subst e9
    exact lv_lookup C.1 C.2.1 hdg rfl (off := o9) rfl h9 (k9 rfl p e R s m args below meth c H locs cells slots Q arr C hS hP hv K)
  intro p e R s m args below meth c H locs cells slots Q arr C hS hP hv K
  have f0 : x.toInt ≠ 37 := fun z => e0 (Int32.toInt_inj.mp z)
  have f1 : x.toInt ≠ 38 := fun z => e1 (Int32.toInt_inj.mp z)
  have f2 : x.toInt ≠ 42 := fun z => e2 (Int32.toInt_inj.mp z)
  have f3 : x.toInt ≠ 43 := fun z => e3 (Int32.toInt_inj.mp z)
  have f4 : x.toInt ≠ 45 := fun z => e4 (Int32.toInt_inj.mp z)
  have f5 : x.toInt ≠ 47 := fun z => e5 (Int32.toInt_inj.mp z)
  have f6 : x.toInt ≠ 60 := fun z => e6 (Int32.toInt_inj.mp z)
  have f7 : x.toInt ≠ 61 := fun z => e7 (Int32.toInt_inj.mp z)
  have f8 : x.toInt ≠ 62 := fun z => e8 (Int32.toInt_inj.mp z)
  have f9 : x.toInt ≠ 124 := fun z => e9 (Int32.toInt_inj.mp z)
  refine lv_lookup C.1 C.2.1 hdg rfl (off := dd) ?_ hd (kd e0 e1 e2 e3 e4 e5 e6 e7 e8 e9 p e R s m args below meth c H locs cells slots Q arr C hS hP hv K)
  simp [Op.lookupswitch.offset, f0, f1, f2, f3, f4, f5, f6, f7, f8, f9, Ne.symm f0, Ne.symm f1, Ne.symm f2, Ne.symm f3, Ne.symm f4, Ne.symm f5, Ne.symm f6, Ne.symm f7, Ne.symm f8, Ne.symm f9]
theorem j_lsw_10_11_12_13_20_21_30_40_50_51_60_70_71 {x : Int32} {len : Nat} {dd o0 o1 o2 o3 o4 o5 o6 o7 o8 o9 o10 o11 o12 : Int} {td t0 t1 t2 t3 t4 t5 t6 t7 t8 t9 t10 t11 t12 : Nat} (hdg : decode M.2.1 pc = .ok (.lookupswitch dd #[(10, o0), (11, o1), (12, o2), (13, o3), (20, o4), (21, o5), (30, o6), (40, o7), (50, o8), (51, o9), (60, o10), (70, o11), (71, o12)], len)) (hd : (pc : Int) + dd = (td : Int)) (h0 : (pc : Int) + o0 = (t0 : Int)) (h1 : (pc : Int) + o1 = (t1 : Int)) (h2 : (pc : Int) + o2 = (t2 : Int)) (h3 : (pc : Int) + o3 = (t3 : Int)) (h4 : (pc : Int) + o4 = (t4 : Int)) (h5 : (pc : Int) + o5 = (t5 : Int)) (h6 : (pc : Int) + o6 = (t6 : Int)) (h7 : (pc : Int) + o7 = (t7 : Int)) (h8 : (pc : Int) + o8 = (t8 : Int)) (h9 : (pc : Int) + o9 = (t9 : Int)) (h10 : (pc : Int) + o10 = (t10 : Int)) (h11 : (pc : Int) + o11 = (t11 : Int)) (h12 : (pc : Int) + o12 = (t12 : Int)) (k0 : x = 10 → J g d M Z t0 ls st σ) (k1 : x = 11 → J g d M Z t1 ls st σ) (k2 : x = 12 → J g d M Z t2 ls st σ) (k3 : x = 13 → J g d M Z t3 ls st σ) (k4 : x = 20 → J g d M Z t4 ls st σ) (k5 : x = 21 → J g d M Z t5 ls st σ) (k6 : x = 30 → J g d M Z t6 ls st σ) (k7 : x = 40 → J g d M Z t7 ls st σ) (k8 : x = 50 → J g d M Z t8 ls st σ) (k9 : x = 51 → J g d M Z t9 ls st σ) (k10 : x = 60 → J g d M Z t10 ls st σ) (k11 : x = 70 → J g d M Z t11 ls st σ) (k12 : x = 71 → J g d M Z t12 ls st σ) (kd : ¬ x = 10 → ¬ x = 11 → ¬ x = 12 → ¬ x = 13 → ¬ x = 20 → ¬ x = 21 → ¬ x = 30 → ¬ x = 40 → ¬ x = 50 → ¬ x = 51 → ¬ x = 60 → ¬ x = 70 → ¬ x = 71 → J g d M Z td ls st σ) : J g d M Z pc ls (.int x :: st) σ := by
  by_cases e0 : x = 10
  · intro p e R s m args below meth c H locs cells slots Q arr C hS hP hv K
    subst e0
    exact lv_lookup C.1 C.2.1 hdg rfl (off := o0) rfl h0 (k0 rfl p e R s m args below meth c H locs cells slots Q arr C hS hP hv K)
  by_cases e1 : x = 11
  · intro p e R s m args below meth c H locs cells slots Q arr C hS hP hv K
    subst e1
    exact lv_lookup C.1 C.2.1 hdg rfl (off := o1) rfl h1 (k1 rfl p e R s m args below meth c H locs cells slots Q arr C hS hP hv K)
  by_cases e2 : x = 12
  · intro p e R s m args below meth c H locs cells slots Q arr C hS hP hv K
    subst e2
    exact lv_lookup C.1 C.2.1 hdg rfl (off := o2) rfl h2 (k2 rfl p e R s m args below meth c H locs cells slots Q arr C hS hP hv K)
  by_cases e3 : x = 13
  · intro p e R s m args below meth c H locs cells slots Q arr C hS hP hv K
    subst e3
    exact lv_lookup C.1 C.2.1 hdg rfl (off := o3) rfl h3 (k3 rfl p e R s m args below meth c H locs cells slots Q arr C hS hP hv K)
  by_cases e4 : x = 20
  · intro p e R s m args below meth c H locs cells slots Q arr C hS hP hv K
    subst e4
    exact lv_lookup C.1 C.2.1 hdg rfl (off := o4) rfl h4 (k4 rfl p e R s m args below meth c H locs cells slots Q arr C hS hP hv K)
  by_cases e5 : x = 21
  · intro p e R s m args below meth c H locs cells slots Q arr C hS hP hv K
    subst e5
    exact lv_lookup C.1 C.2.1 hdg rfl (off := o5) rfl h5 (k5 rfl p e R s m args below meth c H locs cells slots Q arr C hS hP hv K)
  by_cases e6 : x = 30
  · intro p e R s m args below meth c H locs cells slots Q arr C hS hP hv K
    subst e6
    exact lv_lookup C.1 C.2.1 hdg rfl (off := o6) rfl h6 (k6 rfl p e R s m args below meth c H locs cells slots Q arr C hS hP hv K)
  by_cases e7 : x = 40
  · intro p e R s m args below meth c H locs cells slots Q arr C hS hP hv K
    subst e7
    exact lv_lookup C.1 C.2.1 hdg rfl (off := o7) rfl h7 (k7 rfl p e R s m args below meth c H locs cells slots Q arr C hS hP hv K)
  by_cases e8 : x = 50
  · intro p e R s m args below meth c H locs cells slots Q arr C hS hP hv K
    subst e8
    exact lv_lookup C.1 C.2.1 hdg rfl (off := o8) rfl h8 (k8 rfl p e R s m args below meth c H locs cells slots Q arr C hS hP hv K)
  by_cases e9 : x = 51
  · intro p e R s m args below meth c H locs cells slots Q arr C hS hP hv K
    subst e9
    exact lv_lookup C.1 C.2.1 hdg rfl (off := o9) rfl h9 (k9 rfl p e R s m args below meth c H locs cells slots Q arr C hS hP hv K)
  by_cases e10 : x = 60
  · intro p e R s m args below meth c H locs cells slots Q arr C hS hP hv K
    subst e10
    exact lv_lookup C.1 C.2.1 hdg rfl (off := o10) rfl h10 (k10 rfl p e R s m args below meth c H locs cells slots Q arr C hS hP hv K)
  by_cases e11 : x = 70
  · intro p e R s m args below meth c H locs cells slots Q arr C hS hP hv K
    subst e11
    exact lv_lookup C.1 C.2.1 hdg rfl (off := o11) rfl h11 (k11 rfl p e R s m args below meth c H locs cells slots Q arr C hS hP hv K)
  by_cases e12 : x = 71
  · intro p e R s m args below meth c H locs cells slots Q arr C hS hP hv K
    subst e12
    exact lv_lookup C.1 C.2.1 hdg rfl (off := o12) rfl h12 (k12 rfl p e R s m args below meth c H locs cells slots Q arr C hS hP hv K)
  intro p e R s m args below meth c H locs cells slots Q arr C hS hP hv K
  have f0 : x.toInt ≠ 10 := fun z => e0 (Int32.toInt_inj.mp z)
  have f1 : x.toInt ≠ 11 := fun z => e1 (Int32.toInt_inj.mp z)
  have f2 : x.toInt ≠ 12 := fun z => e2 (Int32.toInt_inj.mp z)
  have f3 : x.toInt ≠ 13 := fun z => e3 (Int32.toInt_inj.mp z)
  have f4 : x.toInt ≠ 20 := fun z => e4 (Int32.toInt_inj.mp z)
  have f5 : x.toInt ≠ 21 := fun z => e5 (Int32.toInt_inj.mp z)
  have f6 : x.toInt ≠ 30 := fun z => e6 (Int32.toInt_inj.mp z)
  have f7 : x.toInt ≠ 40 := fun z => e7 (Int32.toInt_inj.mp z)
  have f8 : x.toInt ≠ 50 := fun z => e8 (Int32.toInt_inj.mp z)
  have f9 : x.toInt ≠ 51 := fun z => e9 (Int32.toInt_inj.mp z)
  have f10 : x.toInt ≠ 60 := fun z => e10 (Int32.toInt_inj.mp z)
  have f11 : x.toInt ≠ 70 := fun z => e11 (Int32.toInt_inj.mp z)
  have f12 : x.toInt ≠ 71 := fun z => e12 (Int32.toInt_inj.mp z)
  refine lv_lookup C.1 C.2.1 hdg rfl (off := dd) ?_ hd (kd e0 e1 e2 e3 e4 e5 e6 e7 e8 e9 e10 e11 e12 p e R s m args below meth c H locs cells slots Q arr C hS hP hv K)
  simp [Op.lookupswitch.offset, f0, f1, f2, f3, f4, f5, f6, f7, f8, f9, f10, f11, f12, Ne.symm f0, Ne.symm f1, Ne.symm f2, Ne.symm f3, Ne.symm f4, Ne.symm f5, Ne.symm f6, Ne.symm f7, Ne.symm f8, Ne.symm f9, Ne.symm f10, Ne.symm f11, Ne.symm f12]
theorem j_tsw_0_7 {x : Int32} {len : Nat} {dd o0 o1 o2 o3 o4 o5 o6 o7 : Int} {td t0 t1 t2 t3 t4 t5 t6 t7 : Nat} (hdg : decode M.2.1 pc = .ok (.tableswitch dd 0 7 #[o0, o1, o2, o3, o4, o5, o6, o7], len)) (hd : (pc : Int) + dd = (td : Int)) (h0 : (pc : Int) + o0 = (t0 : Int)) (h1 : (pc : Int) + o1 = (t1 : Int)) (h2 : (pc : Int) + o2 = (t2 : Int)) (h3 : (pc : Int) + o3 = (t3 : Int)) (h4 : (pc : Int) + o4 = (t4 : Int)) (h5 : (pc : Int) + o5 = (t5 : Int)) (h6 : (pc : Int) + o6 = (t6 : Int)) (h7 : (pc : Int) + o7 = (t7 : Int)) (k0 : x = 0 → J g d M Z t0 ls st σ) (k1 : x = 1 → J g d M Z t1 ls st σ) (k2 : x = 2 → J g d M Z t2 ls st σ) (k3 : x = 3 → J g d M Z t3 ls st σ) (k4 : x = 4 → J g d M Z t4 ls st σ) (k5 : x = 5 → J g d M Z t5 ls st σ) (k6 : x = 6 → J g d M Z t6 ls st σ) (k7 : x = 7 → J g d M Z t7 ls st σ) (kd : ¬ x = 0 → ¬ x = 1 → ¬ x = 2 → ¬ x = 3 → ¬ x = 4 → ¬ x = 5 → ¬ x = 6 → ¬ x = 7 → J g d M Z td ls st σ) : J g d M Z pc ls (.int x :: st) σ := by
  by_cases e0 : x = 0
  · intro p e R s m args below meth c H locs cells slots Q arr C hS hP hv K
    subst e0
    exact lv_tableIn C.1 C.2.1 hdg (by decide) (by decide) (off := o0) rfl h0 (k0 rfl p e R s m args below meth c H locs cells slots Q arr C hS hP hv K)
  by_cases e1 : x = 1
  · intro p e R s m args below meth c H locs cells slots Q arr C hS hP hv K
    subst e1
    exact lv_tableIn C.1 C.2.1 hdg (by decide) (by decide) (off := o1) rfl h1 (k1 rfl p e R s m args below meth c H locs cells slots Q arr C hS hP hv K)
  by_cases e2 : x = 2
  · intro p e R s m args below meth c H locs cells slots Q arr C hS hP hv K
    subst e2
    exact lv_tableIn C.1 C.2.1 hdg (by decide) (by decide) (off := o2) rfl h2 (k2 rfl p e R s m args below meth c H locs cells slots Q arr C hS hP hv K)
  by_cases e3 : x = 3
  · intro p e R s m args below meth c H locs cells slots Q arr C hS hP hv K
    subst e3
    exact lv_tableIn C.1 C.2.1 hdg (by decide) (by decide) (off := o3) rfl h3 (k3 rfl p e R s m args below meth c H locs cells slots Q arr C hS hP hv K)
  by_cases e4 : x = 4
  · intro p e R s m args below meth c H locs cells slots Q arr C hS hP hv K
    subst e4
    exact lv_tableIn C.1 C.2.1 hdg (by decide) (by decide) (off := o4) rfl h4 (k4 rfl p e R s m args below meth c H locs cells slots Q arr C hS hP hv K)
  by_cases e5 : x = 5
  · intro p e R s m args below meth c H locs cells slots Q arr C hS hP hv K
    subst e5
    exact lv_tableIn C.1 C.2.1 hdg (by decide) (by decide) (off := o5) rfl h5 (k5 rfl p e R s m args below meth c H locs cells slots Q arr C hS hP hv K)
  by_cases e6 : x = 6
  · intro p e R s m args below meth c H locs cells slots Q arr C hS hP hv K
    subst e6
    exact lv_tableIn C.1 C.2.1 hdg (by decide) (by decide) (off := o6) rfl h6 (k6 rfl p e R s m args below meth c H locs cells slots Q arr C hS hP hv K)
  by_cases e7 : x = 7
  · intro p e R s m args below meth c H locs cells slots Q arr C hS hP hv K
    subst e7
    exact lv_tableIn C.1 C.2.1 hdg (by decide) (by decide) (off := o7) rfl h7 (k7 rfl p e R s m args below meth c H locs cells slots Q arr C hS hP hv K)
  intro p e R s m args below meth c H locs cells slots Q arr C hS hP hv K
  refine lv_tableOut C.1 C.2.1 hdg ?_ hd (kd e0 e1 e2 e3 e4 e5 e6 e7 p e R s m args below meth c H locs cells slots Q arr C hS hP hv K)
  have f0 : x.toInt ≠ 0 := fun z => e0 (Int32.toInt_inj.mp z)
  have f1 : x.toInt ≠ 1 := fun z => e1 (Int32.toInt_inj.mp z)
  have f2 : x.toInt ≠ 2 := fun z => e2 (Int32.toInt_inj.mp z)
  have f3 : x.toInt ≠ 3 := fun z => e3 (Int32.toInt_inj.mp z)
  have f4 : x.toInt ≠ 4 := fun z => e4 (Int32.toInt_inj.mp z)
  have f5 : x.toInt ≠ 5 := fun z => e5 (Int32.toInt_inj.mp z)
  have f6 : x.toInt ≠ 6 := fun z => e6 (Int32.toInt_inj.mp z)
  have f7 : x.toInt ≠ 7 := fun z => e7 (Int32.toInt_inj.mp z)
  omega
theorem j_tsw_37_62 {x : Int32} {len : Nat} {dd o0 o1 o2 o3 o4 o5 o6 o7 o8 o9 o10 o11 o12 o13 o14 o15 o16 o17 o18 o19 o20 o21 o22 o23 o24 o25 : Int} {td t0 t1 t2 t3 t4 t5 t6 t7 t8 t9 t10 t11 t12 t13 t14 t15 t16 t17 t18 t19 t20 t21 t22 t23 t24 t25 : Nat} (hdg : decode M.2.1 pc = .ok (.tableswitch dd 37 62 #[o0, o1, o2, o3, o4, o5, o6, o7, o8, o9, o10, o11, o12, o13, o14, o15, o16, o17, o18, o19, o20, o21, o22, o23, o24, o25], len)) (hd : (pc : Int) + dd = (td : Int)) (h0 : (pc : Int) + o0 = (t0 : Int)) (h1 : (pc : Int) + o1 = (t1 : Int)) (h2 : (pc : Int) + o2 = (t2 : Int)) (h3 : (pc : Int) + o3 = (t3 : Int)) (h4 : (pc : Int) + o4 = (t4 : Int)) (h5 : (pc : Int) + o5 = (t5 : Int)) (h6 : (pc : Int) + o6 = (t6 : Int)) (h7 : (pc : Int) + o7 = (t7 : Int)) (h8 : (pc : Int) + o8 = (t8 : Int)) (h9 : (pc : Int) + o9 = (t9 : Int)) (h10 : (pc : Int) + o10 = (t10 : Int)) (h11 : (pc : Int) + o11 = (t11 : Int)) (h12 : (pc : Int) + o12 = (t12 : Int)) (h13 : (pc : Int) + o13 = (t13 : Int)) (h14 : (pc : Int) + o14 = (t14 : Int)) (h15 : (pc : Int) + o15 = (t15 : Int)) (h16 : (pc : Int) + o16 = (t16 : Int)) (h17 : (pc : Int) + o17 = (t17 : Int)) (h18 : (pc : Int) + o18 = (t18 : Int)) (h19 : (pc : Int) + o19 = (t19 : Int)) (h20 : (pc : Int) + o20 = (t20 : Int)) (h21 : (pc : Int) + o21 = (t21 : Int)) (h22 : (pc : Int) + o22 = (t22 : Int)) (h23 : (pc : Int) + o23 = (t23 : Int)) (h24 : (pc : Int) + o24 = (t24 : Int)) (h25 : (pc : Int) + o25 = (t25 : Int)) (k0 : x = 37 → J g d M Z t0 ls st σ) (k1 : x = 38 → J g d M Z t1 ls st σ) (k2 : x = 39 → J g d M Z t2 ls st σ) (k3 : x = 40 → J g d M Z t3 ls st σ) (k4 : x = 41 → J g d M Z t4 ls st σ) (k5 : x = 42 → J g d M Z t5 ls st σ) (k6 : x = 43 → J g d M Z t6 ls st σ) (k7 : x = 44 → J g d M Z t7 ls st σ) (k8 : x = 45 → J g d M Z t8 ls st σ) (k9 : x = 46 → J g d M Z t9 ls st σ) (k10 : x = 47 → J g d M Z t10 ls st σ) (k11 : x = 48 → J g d M Z t11 ls st σ) (k12 : x = 49 → J g d M Z t12 ls st σ) (k13 : x = 50 → J g d M Z t13 ls st σ) (k14 : x = 51 → J g d M Z t14 ls st σ) (k15 : x = 52 → J g d M Z t15 ls st σ) (k16 : x = 53 → J g d M Z t16 ls st σ) (k17 : x = 54 → J g d M Z t17 ls st σ) (k18 : x = 55 → J g d M Z t18 ls st σ) (k19 : x = 56 → J g d M Z t19 ls st σ) (k20 : x = 57 → J g d M Z t20 ls st σ) (k21 : x = 58 → J g d M Z t21 ls st σ) (k22 : x = 59 → J g d M Z t22 ls st σ) (k23 : x = 60 → J g d M Z t23 ls st σ) (k24 : x = 61 → J g d M Z t24 ls st σ) (k25 : x = 62 → J g d M Z t25 ls st σ) (kd : ¬ x = 37 → ¬ x = 38 → ¬ x = 39 → ¬ x = 40 → ¬ x = 41 → ¬ x = 42 → ¬ x = 43 → ¬ x = 44 → ¬ x = 45 → ¬ x = 46 → ¬ x = 47 → ¬ x = 48 → ¬ x = 49 → ¬ x = 50 → ¬ x = 51 → ¬ x = 52 → ¬ x = 53 → ¬ x = 54 → ¬ x = 55 → ¬ x = 56 → ¬ x = 57 → ¬ x = 58 → ¬ x = 59 → ¬ x = 60 → ¬ x = 61 → ¬ x = 62 → J g d M Z td ls st σ) : J g d M Z pc ls (.int x :: st) σ := by
  by_cases e0 : x = 37
  · intro p e R s m args below meth c H locs cells slots Q arr C hS hP hv K
    subst e0
    exact lv_tableIn C.1 C.2.1 hdg (by decide) (by decide) (off := o0) rfl h0 (k0 rfl p e R s m args below meth c H locs cells slots Q arr C hS hP hv K)
  by_cases e1 : x = 38
  · intro p e R s m args below meth c H locs cells slots Q arr C hS hP hv K
    subst e1
    exact lv_tableIn C.1 C.2.1 hdg (by decide) (by decide) (off := o1) rfl h1 (k1 rfl p e R s m args below meth c H locs cells slots Q arr C hS hP hv K)
  by_cases e2 : x = 39
  · intro p e R s m args below meth c H locs cells slots Q arr C hS hP hv K
    subst e2
    exact lv_tableIn C.1 C.2.1 hdg (by decide) (by decide) (off := o2) rfl h2 (k2 rfl p e R s m args below meth c H locs cells slots Q arr C hS hP hv K)
  by_cases e3 : x = 40
  · intro p e R s m args below meth c H locs cells slots Q arr C hS hP hv K
    subst e3
    exact lv_tableIn C.1 C.2.1 hdg (by decide) (by decide) (off := o3) rfl h3 (k3 rfl p e R s m args below meth c H locs cells slots Q arr C hS hP hv K)
  by_cases e4 : x = 41
  · intro p e R s m args below meth c H locs cells slots Q arr C hS hP hv K
    subst e4
    exact lv_tableIn C.1 C.2.1 hdg (by decide) (by decide) (off := o4) rfl h4 (k4 rfl p e R s m args below meth c H locs cells slots Q arr C hS hP hv K)
  by_cases e5 : x = 42
  · intro p e R s m args below meth c H locs cells slots Q arr C hS hP hv K
    subst e5
    exact lv_tableIn C.1 C.2.1 hdg (by decide) (by decide) (off := o5) rfl h5 (k5 rfl p e R s m args below meth c H locs cells slots Q arr C hS hP hv K)
  by_cases e6 : x = 43
  · intro p e R s m args below meth c H locs cells slots Q arr C hS hP hv K
    subst e6
    exact lv_tableIn C.1 C.2.1 hdg (by decide) (by decide) (off := o6) rfl h6 (k6 rfl p e R s m args below meth c H locs cells slots Q arr C hS hP hv K)
  by_cases e7 : x = 44
  · intro p e R s m args below meth c H locs cells slots Q arr C hS hP hv K
    subst e7
    exact lv_tableIn C.1 C.2.1 hdg (by decide) (by decide) (off := o7) rfl h7 (k7 rfl p e R s m args below meth c H locs cells slots Q arr C hS hP hv K)
  by_cases e8 : x = 45
  · intro p e R s m args below meth c H locs cells slots Q arr C hS hP hv K
    subst e8
    exact lv_tableIn C.1 C.2.1 hdg (by decide) (by decide) (off := o8) rfl h8 (k8 rfl p e R s m args below meth c H locs cells slots Q arr C hS hP hv K)
  by_cases e9 : x = 46
  · intro p e R s m args below meth c H locs cells slots Q arr C hS hP hv K
    subst e9
    exact lv_tableIn C.1 C.2.1 hdg (by decide) (by decide) (off := o9) rfl h9 (k9 rfl p e R s m args below meth c H locs cells slots Q arr C hS hP hv K)
  by_cases e10 : x = 47
  · intro p e R s m args below meth c H locs cells slots Q arr C hS hP hv K
    subst e10
    exact lv_tableIn C.1 C.2.1 hdg (by decide) (by decide) (off := o10) rfl h10 (k10 rfl p e R s m args below meth c H locs cells slots Q arr C hS hP hv K)
  by_cases e11 : x = 48
  · intro p e R s m args below meth c H locs cells slots Q arr C hS hP hv K
    subst e11
    exact lv_tableIn C.1 C.2.1 hdg (by decide) (by decide) (off := o11) rfl h11 (k11 rfl p e R s m args below meth c H locs cells slots Q arr C hS hP hv K)
  by_cases e12 : x = 49
  · intro p e R s m args below meth c H locs cells slots Q arr C hS hP hv K
    subst e12
    exact lv_tableIn C.1 C.2.1 hdg (by decide) (by decide) (off := o12) rfl h12 (k12 rfl p e R s m args below meth c H locs cells slots Q arr C hS hP hv K)
  by_cases e13 : x = 50
  · intro p e R s m args below meth c H locs cells slots Q arr C hS hP hv K
    subst e13
    exact lv_tableIn C.1 C.2.1 hdg (by decide) (by decide) (off := o13) rfl h13 (k13 rfl p e R s m args below meth c H locs cells slots Q arr C hS hP hv K)
  by_cases e14 : x = 51
  · intro p e R s m args below meth c H locs cells slots Q arr C hS hP hv K
    subst e14
    exact lv_tableIn C.1 C.2.1 hdg (by decide) (by decide) (off := o14) rfl h14 (k14 rfl p e R s m args below meth c H locs cells slots Q arr C hS hP hv K)
  by_cases e15 : x = 52
  · intro p e R s m args below meth c H locs cells slots Q arr C hS hP hv K
    subst e15
    exact lv_tableIn C.1 C.2.1 hdg (by decide) (by decide) (off := o15) rfl h15 (k15 rfl p e R s m args below meth c H locs cells slots Q arr C hS hP hv K)
  by_cases e16 : x = 53
  · intro p e R s m args below meth c H locs cells slots Q arr C hS hP hv K
    subst e16
    exact lv_tableIn C.1 C.2.1 hdg (by decide) (by decide) (off := o16) rfl h16 (k16 rfl p e R s m args below meth c H locs cells slots Q arr C hS hP hv K)
  by_cases e17 : x = 54
  · intro p e R s m args below meth c H locs cells slots Q arr C hS hP hv K
    subst e17
    exact lv_tableIn C.1 C.2.1 hdg (by decide) (by decide) (off := o17) rfl h17 (k17 rfl p e R s m args below meth c H locs cells slots Q arr C hS hP hv K)
  by_cases e18 : x = 55
  · intro p e R s m args below meth c H locs cells slots Q arr C hS hP hv K
    subst e18
    exact lv_tableIn C.1 C.2.1 hdg (by decide) (by decide) (off := o18) rfl h18 (k18 rfl p e R s m args below meth c H locs cells slots Q arr C hS hP hv K)
  by_cases e19 : x = 56
  · intro p e R s m args below meth c H locs cells slots Q arr C hS hP hv K
    subst e19
    exact lv_tableIn C.1 C.2.1 hdg (by decide) (by decide) (off := o19) rfl h19 (k19 rfl p e R s m args below meth c H locs cells slots Q arr C hS hP hv K)
  by_cases e20 : x = 57
  · intro p e R s m args below meth c H locs cells slots Q arr C hS hP hv K
    subst e20
    exact lv_tableIn C.1 C.2.1 hdg (by decide) (by decide) (off := o20) rfl h20 (k20 rfl p e R s m args below meth c H locs cells slots Q arr C hS hP hv K)
  by_cases e21 : x = 58
  · intro p e R s m args below meth c H locs cells slots Q arr C hS hP hv K
    subst e21
    exact lv_tableIn C.1 C.2.1 hdg (by decide) (by decide) (off := o21) rfl h21 (k21 rfl p e R s m args below meth c H locs cells slots Q arr C hS hP hv K)
  by_cases e22 : x = 59
  · intro p e R s m args below meth c H locs cells slots Q arr C hS hP hv K
    subst e22
    exact lv_tableIn C.1 C.2.1 hdg (by decide) (by decide) (off := o22) rfl h22 (k22 rfl p e R s m args below meth c H locs cells slots Q arr C hS hP hv K)
  by_cases e23 : x = 60
  · intro p e R s m args below meth c H locs cells slots Q arr C hS hP hv K
    subst e23
    exact lv_tableIn C.1 C.2.1 hdg (by decide) (by decide) (off := o23) rfl h23 (k23 rfl p e R s m args below meth c H locs cells slots Q arr C hS hP hv K)
  by_cases e24 : x = 61
  · intro p e R s m args below meth c H locs cells slots Q arr C hS hP hv K
    subst e24
    exact lv_tableIn C.1 C.2.1 hdg (by decide) (by decide) (off := o24) rfl h24 (k24 rfl p e R s m args below meth c H locs cells slots Q arr C hS hP hv K)
  by_cases e25 : x = 62
  · intro p e R s m args below meth c H locs cells slots Q arr C hS hP hv K
    subst e25
    exact lv_tableIn C.1 C.2.1 hdg (by decide) (by decide) (off := o25) rfl h25 (k25 rfl p e R s m args below meth c H locs cells slots Q arr C hS hP hv K)
  intro p e R s m args below meth c H locs cells slots Q arr C hS hP hv K
  refine lv_tableOut C.1 C.2.1 hdg ?_ hd (kd e0 e1 e2 e3 e4 e5 e6 e7 e8 e9 e10 e11 e12 e13 e14 e15 e16 e17 e18 e19 e20 e21 e22 e23 e24 e25 p e R s m args below meth c H locs cells slots Q arr C hS hP hv K)
  have f0 : x.toInt ≠ 37 := fun z => e0 (Int32.toInt_inj.mp z)
  have f1 : x.toInt ≠ 38 := fun z => e1 (Int32.toInt_inj.mp z)
  have f2 : x.toInt ≠ 39 := fun z => e2 (Int32.toInt_inj.mp z)
  have f3 : x.toInt ≠ 40 := fun z => e3 (Int32.toInt_inj.mp z)
  have f4 : x.toInt ≠ 41 := fun z => e4 (Int32.toInt_inj.mp z)
  have f5 : x.toInt ≠ 42 := fun z => e5 (Int32.toInt_inj.mp z)
  have f6 : x.toInt ≠ 43 := fun z => e6 (Int32.toInt_inj.mp z)
  have f7 : x.toInt ≠ 44 := fun z => e7 (Int32.toInt_inj.mp z)
  have f8 : x.toInt ≠ 45 := fun z => e8 (Int32.toInt_inj.mp z)
  have f9 : x.toInt ≠ 46 := fun z => e9 (Int32.toInt_inj.mp z)
  have f10 : x.toInt ≠ 47 := fun z => e10 (Int32.toInt_inj.mp z)
  have f11 : x.toInt ≠ 48 := fun z => e11 (Int32.toInt_inj.mp z)
  have f12 : x.toInt ≠ 49 := fun z => e12 (Int32.toInt_inj.mp z)
  have f13 : x.toInt ≠ 50 := fun z => e13 (Int32.toInt_inj.mp z)
  have f14 : x.toInt ≠ 51 := fun z => e14 (Int32.toInt_inj.mp z)
  have f15 : x.toInt ≠ 52 := fun z => e15 (Int32.toInt_inj.mp z)
  have f16 : x.toInt ≠ 53 := fun z => e16 (Int32.toInt_inj.mp z)
  have f17 : x.toInt ≠ 54 := fun z => e17 (Int32.toInt_inj.mp z)
  have f18 : x.toInt ≠ 55 := fun z => e18 (Int32.toInt_inj.mp z)
  have f19 : x.toInt ≠ 56 := fun z => e19 (Int32.toInt_inj.mp z)
  have f20 : x.toInt ≠ 57 := fun z => e20 (Int32.toInt_inj.mp z)
  have f21 : x.toInt ≠ 58 := fun z => e21 (Int32.toInt_inj.mp z)
  have f22 : x.toInt ≠ 59 := fun z => e22 (Int32.toInt_inj.mp z)
  have f23 : x.toInt ≠ 60 := fun z => e23 (Int32.toInt_inj.mp z)
  have f24 : x.toInt ≠ 61 := fun z => e24 (Int32.toInt_inj.mp z)
  have f25 : x.toInt ≠ 62 := fun z => e25 (Int32.toInt_inj.mp z)
  omega
theorem j_tsw_0_6 {x : Int32} {len : Nat} {dd o0 o1 o2 o3 o4 o5 o6 : Int} {td t0 t1 t2 t3 t4 t5 t6 : Nat} (hdg : decode M.2.1 pc = .ok (.tableswitch dd 0 6 #[o0, o1, o2, o3, o4, o5, o6], len)) (hd : (pc : Int) + dd = (td : Int)) (h0 : (pc : Int) + o0 = (t0 : Int)) (h1 : (pc : Int) + o1 = (t1 : Int)) (h2 : (pc : Int) + o2 = (t2 : Int)) (h3 : (pc : Int) + o3 = (t3 : Int)) (h4 : (pc : Int) + o4 = (t4 : Int)) (h5 : (pc : Int) + o5 = (t5 : Int)) (h6 : (pc : Int) + o6 = (t6 : Int)) (k0 : x = 0 → J g d M Z t0 ls st σ) (k1 : x = 1 → J g d M Z t1 ls st σ) (k2 : x = 2 → J g d M Z t2 ls st σ) (k3 : x = 3 → J g d M Z t3 ls st σ) (k4 : x = 4 → J g d M Z t4 ls st σ) (k5 : x = 5 → J g d M Z t5 ls st σ) (k6 : x = 6 → J g d M Z t6 ls st σ) (kd : ¬ x = 0 → ¬ x = 1 → ¬ x = 2 → ¬ x = 3 → ¬ x = 4 → ¬ x = 5 → ¬ x = 6 → J g d M Z td ls st σ) : J g d M Z pc ls (.int x :: st) σ := by
  by_cases e0 : x = 0
  · intro p e R s m args below meth c H locs cells slots Q arr C hS hP hv K
    subst e0
    exact lv_tableIn C.1 C.2.1 hdg (by decide) (by decide) (off := o0) rfl h0 (k0 rfl p e R s m args below meth c H locs cells slots Q arr C hS hP hv K)
  by_cases e1 : x = 1
  · intro p e R s m args below meth c H locs cells slots Q arr C hS hP hv K
    subst e1
    exact lv_tableIn C.1 C.2.1 hdg (by decide) (by decide) (off := o1) rfl h1 (k1 rfl p e R s m args below meth c H locs cells slots Q arr C hS hP hv K)
  by_cases e2 : x = 2
  · intro p e R s m args below meth c H locs cells slots Q arr C hS hP hv K
    subst e2
    exact lv_tableIn C.1 C.2.1 hdg (by decide) (by decide) (off := o2) rfl h2 (k2 rfl p e R s m args below meth c H locs cells slots Q arr C hS hP hv K)
  by_cases e3 : x = 3
  · intro p e R s m args below meth c H locs cells slots Q arr C hS hP hv K
    subst e3
    exact lv_tableIn C.1 C.2.1 hdg (by decide) (by decide) (off := o3) rfl h3 (k3 rfl p e R s m args below meth c H locs cells slots Q arr C hS hP hv K)
  by_cases e4 : x = 4
  · intro p e R s m args below meth c H locs cells slots Q arr C hS hP hv K
    subst e4
    exact lv_tableIn C.1 C.2.1 hdg (by decide) (by decide) (off := o4) rfl h4 (k4 rfl p e R s m args below meth c H locs cells slots Q arr C hS hP hv K)
  by_cases e5 : x = 5
  · intro p e R s m args below meth c H locs cells slots Q arr C hS hP hv K
    subst e5
    exact lv_tableIn C.1 C.2.1 hdg (by decide) (by decide) (off := o5) rfl h5 (k5 rfl p e R s m args below meth c H locs cells slots Q arr C hS hP hv K)
  by_cases e6 : x = 6
  · intro p e R s m args below meth c H locs cells slots Q arr C hS hP hv K
    subst e6
    exact lv_tableIn C.1 C.2.1 hdg (by decide) (by decide) (off := o6) rfl h6 (k6 rfl p e R s m args below meth c H locs cells slots Q arr C hS hP hv K)
  intro p e R s m args below meth c H locs cells slots Q arr C hS hP hv K
  refine lv_tableOut C.1 C.2.1 hdg ?_ hd (kd e0 e1 e2 e3 e4 e5 e6 p e R s m args below meth c H locs cells slots Q arr C hS hP hv K)
  have f0 : x.toInt ≠ 0 := fun z => e0 (Int32.toInt_inj.mp z)
  have f1 : x.toInt ≠ 1 := fun z => e1 (Int32.toInt_inj.mp z)
  have f2 : x.toInt ≠ 2 := fun z => e2 (Int32.toInt_inj.mp z)
  have f3 : x.toInt ≠ 3 := fun z => e3 (Int32.toInt_inj.mp z)
  have f4 : x.toInt ≠ 4 := fun z => e4 (Int32.toInt_inj.mp z)
  have f5 : x.toInt ≠ 5 := fun z => e5 (Int32.toInt_inj.mp z)
  have f6 : x.toInt ≠ 6 := fun z => e6 (Int32.toInt_inj.mp z)
  omega
theorem j_tsw_0_4 {x : Int32} {len : Nat} {dd o0 o1 o2 o3 o4 : Int} {td t0 t1 t2 t3 t4 : Nat} (hdg : decode M.2.1 pc = .ok (.tableswitch dd 0 4 #[o0, o1, o2, o3, o4], len)) (hd : (pc : Int) + dd = (td : Int)) (h0 : (pc : Int) + o0 = (t0 : Int)) (h1 : (pc : Int) + o1 = (t1 : Int)) (h2 : (pc : Int) + o2 = (t2 : Int)) (h3 : (pc : Int) + o3 = (t3 : Int)) (h4 : (pc : Int) + o4 = (t4 : Int)) (k0 : x = 0 → J g d M Z t0 ls st σ) (k1 : x = 1 → J g d M Z t1 ls st σ) (k2 : x = 2 → J g d M Z t2 ls st σ) (k3 : x = 3 → J g d M Z t3 ls st σ) (k4 : x = 4 → J g d M Z t4 ls st σ) (kd : ¬ x = 0 → ¬ x = 1 → ¬ x = 2 → ¬ x = 3 → ¬ x = 4 → J g d M Z td ls st σ) : J g d M Z pc ls (.int x :: st) σ := by
  by_cases e0 : x = 0
  · intro p e R s m args below meth c H locs cells slots Q arr C hS hP hv K
    subst e0
    exact lv_tableIn C.1 C.2.1 hdg (by decide) (by decide) (off := o0) rfl h0 (k0 rfl p e R s m args below meth c H locs cells slots Q arr C hS hP hv K)
  by_cases e1 : x = 1
  · intro p e R s m args below meth c H locs cells slots Q arr C hS hP hv K
    subst e1
    exact lv_tableIn C.1 C.2.1 hdg (by decide) (by decide) (off := o1) rfl h1 (k1 rfl p e R s m args below meth c H locs cells slots Q arr C hS hP hv K)
  by_cases e2 : x = 2
  · intro p e R s m args below meth c H locs cells slots Q arr C hS hP hv K
    subst e2
    exact lv_tableIn C.1 C.2.1 hdg (by decide) (by decide) (off := o2) rfl h2 (k2 rfl p e R s m args below meth c H locs cells slots Q arr C hS hP hv K)
  by_cases e3 : x = 3
  · intro p e R s m args below meth c H locs cells slots Q arr C hS hP hv K
    subst e3
    exact lv_tableIn C.1 C.2.1 hdg (by decide) (by decide) (off := o3) rfl h3 (k3 rfl p e R s m args below meth c H locs cells slots Q arr C hS hP hv K)
  by_cases e4 : x = 4
  · intro p e R s m args below meth c H locs cells slots Q arr C hS hP hv K
    subst e4
    exact lv_tableIn C.1 C.2.1 hdg (by decide) (by decide) (off := o4) rfl h4 (k4 rfl p e R s m args below meth c H locs cells slots Q arr C hS hP hv K)
  intro p e R s m args below meth c H locs cells slots Q arr C hS hP hv K
  refine lv_tableOut C.1 C.2.1 hdg ?_ hd (kd e0 e1 e2 e3 e4 p e R s m args below meth c H locs cells slots Q arr C hS hP hv K)
  have f0 : x.toInt ≠ 0 := fun z => e0 (Int32.toInt_inj.mp z)
  have f1 : x.toInt ≠ 1 := fun z => e1 (Int32.toInt_inj.mp z)
  have f2 : x.toInt ≠ 2 := fun z => e2 (Int32.toInt_inj.mp z)
  have f3 : x.toInt ≠ 3 := fun z => e3 (Int32.toInt_inj.mp z)
  have f4 : x.toInt ≠ 4 := fun z => e4 (Int32.toInt_inj.mp z)
  omega
theorem j_lsw_0_1 {x : Int32} {len : Nat} {dd o0 o1 : Int} {td t0 t1 : Nat} (hdg : decode M.2.1 pc = .ok (.lookupswitch dd #[(0, o0), (1, o1)], len)) (hd : (pc : Int) + dd = (td : Int)) (h0 : (pc : Int) + o0 = (t0 : Int)) (h1 : (pc : Int) + o1 = (t1 : Int)) (k0 : x = 0 → J g d M Z t0 ls st σ) (k1 : x = 1 → J g d M Z t1 ls st σ) (kd : ¬ x = 0 → ¬ x = 1 → J g d M Z td ls st σ) : J g d M Z pc ls (.int x :: st) σ := by
  by_cases e0 : x = 0
  · intro p e R s m args below meth c H locs cells slots Q arr C hS hP hv K
    subst e0
    exact lv_lookup C.1 C.2.1 hdg rfl (off := o0) rfl h0 (k0 rfl p e R s m args below meth c H locs cells slots Q arr C hS hP hv K)
  by_cases e1 : x = 1
  · intro p e R s m args below meth c H locs cells slots Q arr C hS hP hv K
    subst e1
    exact lv_lookup C.1 C.2.1 hdg rfl (off := o1) rfl h1 (k1 rfl p e R s m args below meth c H locs cells slots Q arr C hS hP hv K)
  intro p e R s m args below meth c H locs cells slots Q arr C hS hP hv K
  have f0 : x.toInt ≠ 0 := fun z => e0 (Int32.toInt_inj.mp z)
  have f1 : x.toInt ≠ 1 := fun z => e1 (Int32.toInt_inj.mp z)
  refine lv_lookup C.1 C.2.1 hdg rfl (off := dd) ?_ hd (kd e0 e1 p e R s m args below meth c H locs cells slots Q arr C hS hP hv K)
  simp [Op.lookupswitch.offset, f0, f1, Ne.symm f0, Ne.symm f1]
theorem j_tsw_0_38 {x : Int32} {len : Nat} {dd o0 o1 o2 o3 o4 o5 o6 o7 o8 o9 o10 o11 o12 o13 o14 o15 o16 o17 o18 o19 o20 o21 o22 o23 o24 o25 o26 o27 o28 o29 o30 o31 o32 o33 o34 o35 o36 o37 o38 : Int} {td t0 t1 t2 t3 t4 t5 t6 t7 t8 t9 t10 t11 t12 t13 t14 t15 t16 t17 t18 t19 t20 t21 t22 t23 t24 t25 t26 t27 t28 t29 t30 t31 t32 t33 t34 t35 t36 t37 t38 : Nat} (hdg : decode M.2.1 pc = .ok (.tableswitch dd 0 38 #[o0, o1, o2, o3, o4, o5, o6, o7, o8, o9, o10, o11, o12, o13, o14, o15, o16, o17, o18, o19, o20, o21, o22, o23, o24, o25, o26, o27, o28, o29, o30, o31, o32, o33, o34, o35, o36, o37, o38], len)) (hd : (pc : Int) + dd = (td : Int)) (h0 : (pc : Int) + o0 = (t0 : Int)) (h1 : (pc : Int) + o1 = (t1 : Int)) (h2 : (pc : Int) + o2 = (t2 : Int)) (h3 : (pc : Int) + o3 = (t3 : Int)) (h4 : (pc : Int) + o4 = (t4 : Int)) (h5 : (pc : Int) + o5 = (t5 : Int)) (h6 : (pc : Int) + o6 = (t6 : Int)) (h7 : (pc : Int) + o7 = (t7 : Int)) (h8 : (pc : Int) + o8 = (t8 : Int)) (h9 : (pc : Int) + o9 = (t9 : Int)) (h10 : (pc : Int) + o10 = (t10 : Int)) (h11 : (pc : Int) + o11 = (t11 : Int)) (h12 : (pc : Int) + o12 = (t12 : Int)) (h13 : (pc : Int) + o13 = (t13 : Int)) (h14 : (pc : Int) + o14 = (t14 : Int)) (h15 : (pc : Int) + o15 = (t15 : Int)) (h16 : (pc : Int) + o16 = (t16 : Int)) (h17 : (pc : Int) + o17 = (t17 : Int)) (h18 : (pc : Int) + o18 = (t18 : Int)) (h19 : (pc : Int) + o19 = (t19 : Int)) (h20 : (pc : Int) + o20 = (t20 : Int)) (h21 : (pc : Int) + o21 = (t21 : Int)) (h22 : (pc : Int) + o22 = (t22 : Int)) (h23 : (pc : Int) + o23 = (t23 : Int)) (h24 : (pc : Int) + o24 = (t24 : Int)) (h25 : (pc : Int) + o25 = (t25 : Int)) (h26 : (pc : Int) + o26 = (t26 : Int)) (h27 : (pc : Int) + o27 = (t27 : Int)) (h28 : (pc : Int) + o28 = (t28 : Int)) (h29 : (pc : Int) + o29 = (t29 : Int)) (h30 : (pc : Int) + o30 = (t30 : Int)) (h31 : (pc : Int) + o31 = (t31 : Int)) (h32 : (pc : Int) + o32 = (t32 : Int)) (h33 : (pc : Int) + o33 = (t33 : Int)) (h34 : (pc : Int) + o34 = (t34 : Int)) (h35 : (pc : Int) + o35 = (t35 : Int)) (h36 : (pc : Int) + o36 = (t36 : Int)) (h37 : (pc : Int) + o37 = (t37 : Int)) (h38 : (pc : Int) + o38 = (t38 : Int)) (k0 : x = 0 → J g d M Z t0 ls st σ) (k1 : x = 1 → J g d M Z t1 ls st σ) (k2 : x = 2 → J g d M Z t2 ls st σ) (k3 : x = 3 → J g d M Z t3 ls st σ) (k4 : x = 4 → J g d M Z t4 ls st σ) (k5 : x = 5 → J g d M Z t5 ls st σ) (k6 : x = 6 → J g d M Z t6 ls st σ) (k7 : x = 7 → J g d M Z t7 ls st σ) (k8 : x = 8 → J g d M Z t8 ls st σ) (k9 : x = 9 → J g d M Z t9 ls st σ) (k10 : x = 10 → J g d M Z t10 ls st σ) (k11 : x = 11 → J g d M Z t11 ls st σ) (k12 : x = 12 → J g d M Z t12 ls st σ) (k13 : x = 13 → J g d M Z t13 ls st σ) (k14 : x = 14 → J g d M Z t14 ls st σ) (k15 : x = 15 → J g d M Z t15 ls st σ) (k16 : x = 16 → J g d M Z t16 ls st σ) (k17 : x = 17 → J g d M Z t17 ls st σ) (k18 : x = 18 → J g d M Z t18 ls st σ) (k19 : x = 19 → J g d M Z t19 ls st σ) (k20 : x = 20 → J g d M Z t20 ls st σ) (k21 : x = 21 → J g d M Z t21 ls st σ) (k22 : x = 22 → J g d M Z t22 ls st σ) (k23 : x = 23 → J g d M Z t23 ls st σ) (k24 : x = 24 → J g d M Z t24 ls st σ) (k25 : x = 25 → J g d M Z t25 ls st σ) (k26 : x = 26 → J g d M Z t26 ls st σ) (k27 : x = 27 → J g d M Z t27 ls st σ) (k28 : x = 28 → J g d M Z t28 ls st σ) (k29 : x = 29 → J g d M Z t29 ls st σ) (k30 : x = 30 → J g d M Z t30 ls st σ) (k31 : x = 31 → J g d M Z t31 ls st σ) (k32 : x = 32 → J g d M Z t32 ls st σ) (k33 : x = 33 → J g d M Z t33 ls st σ) (k34 : x = 34 → J g d M Z t34 ls st σ) (k35 : x = 35 → J g d M Z t35 ls st σ) (k36 : x = 36 → J g d M Z t36 ls st σ) (k37 : x = 37 → J g d M Z t37 ls st σ) (k38 : x = 38 → J g d M Z t38 ls st σ) (kd : ¬ x = 0 → ¬ x = 1 → ¬ x = 2 → ¬ x = 3 → ¬ x = 4 → ¬ x = 5 → ¬ x = 6 → ¬ x = 7 → ¬ x = 8 → ¬ x = 9 → ¬ x = 10 → ¬ x = 11 → ¬ x = 12 → ¬ x = 13 → ¬ x = 14 → ¬ x = 15 → ¬ x = 16 → ¬ x = 17 → ¬ x = 18 → ¬ x = 19 → ¬ x = 20 → ¬ x = 21 → ¬ x = 22 → ¬ x = 23 → ¬ x = 24 → ¬ x = 25 → ¬ x = 26 → ¬ x = 27 → ¬ x = 28 → ¬ x = 29 → ¬ x = 30 → ¬ x = 31 → ¬ x = 32 → ¬ x = 33 → ¬ x = 34 → ¬ x = 35 → ¬ x = 36 → ¬ x = 37 → ¬ x = 38 → J g d M Z td ls st σ) : J g d M Z pc ls (.int x :: st) σ := by
  by_cases e0 : x = 0
  · intro p e R s m args below meth c H locs cells slots Q arr C hS hP hv K
    subst e0
    exact lv_tableIn C.1 C.2.1 hdg (by decide) (by decide) (off := o0) rfl h0 (k0 rfl p e R s m args below meth c H locs cells slots Q arr C hS hP hv K)
  by_cases e1 : x = 1
  · intro p e R s m args below meth c H locs cells slots Q arr C hS hP hv K
    subst e1
    exact lv_tableIn C.1 C.2.1 hdg (by decide) (by decide) (off := o1) rfl h1 (k1 rfl p e R s m args below meth c H locs cells slots Q arr C hS hP hv K)
  by_cases e2 : x = 2
  · intro p e R s m args below meth c H locs cells slots Q arr C hS hP hv K
    subst e2
    exact lv_tableIn C.1 C.2.1 hdg (by decide) (by decide) (off := o2) rfl h2 (k2 rfl p e R s m args below meth c H locs cells slots Q arr C hS hP hv K)
  by_cases e3 : x = 3
  · intro p e R s m args below meth c H locs cells slots Q arr C hS hP hv K
    subst e3
    exact lv_tableIn C.1 C.2.1 hdg (by decide) (by decide) (off := o3) rfl h3 (k3 rfl p e R s m args below meth c H locs cells slots Q arr C hS hP hv K)
  by_cases e4 : x = 4
  · intro p e R s m args below meth c H locs cells slots Q arr C hS hP hv K
    subst e4
    exact lv_tableIn C.1 C.2.1 hdg (by decide) (by decide) (off := o4) rfl h4 (k4 rfl p e R s m args below meth c H locs cells slots Q arr C hS hP hv K)
  by_cases e5 : x = 5
  · intro p e R s m args below meth c H locs cells slots Q arr C hS hP hv K
    subst e5
    exact lv_tableIn C.1 C.2.1 hdg (by decide) (by decide) (off := o5) rfl h5 (k5 rfl p e R s m args below meth c H locs cells slots Q arr C hS hP hv K)
  by_cases e6 : x = 6
  · intro p e R s m args below meth c H locs cells slots Q arr C hS hP hv K
    subst e6
    exact lv_tableIn C.1 C.2.1 hdg (by decide) (by decide) (off := o6) rfl h6 (k6 rfl p e R s m args below meth c H locs cells slots Q arr C hS hP hv K)
  by_cases e7 : x = 7
  · intro p e R s m args below meth c H locs cells slots Q arr C hS hP hv K
    subst e7
    exact lv_tableIn C.1 C.2.1 hdg (by decide) (by decide) (off := o7) rfl h7 (k7 rfl p e R s m args below meth c H locs cells slots Q arr C hS hP hv K)
  by_cases e8 : x = 8
  · intro p e R s m args below meth c H locs cells slots Q arr C hS hP hv K
    subst e8
    exact lv_tableIn C.1 C.2.1 hdg (by decide) (by decide) (off := o8) rfl h8 (k8 rfl p e R s m args below meth c H locs cells slots Q arr C hS hP hv K)
  by_cases e9 : x = 9
  · intro p e R s m args below meth c H locs cells slots Q arr C hS hP hv K
    subst e9
    exact lv_tableIn C.1 C.2.1 hdg (by decide) (by decide) (off := o9) rfl h9 (k9 rfl p e R s m args below meth c H locs cells slots Q arr C hS hP hv K)
  by_cases e10 : x = 10
  · intro p e R s m args below meth c H locs cells slots Q arr C hS hP hv K
    subst e10
    exact lv_tableIn C.1 C.2.1 hdg (by decide) (by decide) (off := o10) rfl h10 (k10 rfl p e R s m args below meth c H locs cells slots Q arr C hS hP hv K)
  by_cases e11 : x = 11
  · intro p e R s m args below meth c H locs cells slots Q arr C hS hP hv K
    subst e11
    exact lv_tableIn C.1 C.2.1 hdg (by decide) (by decide) (off := o11) rfl h11 (k11 rfl p e R s m args below meth c H locs cells slots Q arr C hS hP hv K)
  by_cases e12 : x = 12
  · intro p e R s m args below meth c H locs cells slots Q arr C hS hP hv K
    subst e12
    exact lv_tableIn C.1 C.2.1 hdg (by decide) (by decide) (off := o12) rfl h12 (k12 rfl p e R s m args below meth c H locs cells slots Q arr C hS hP hv K)
  by_cases e13 : x = 13
  · intro p e R s m args below meth c H locs cells slots Q arr C hS hP hv K
    subst e13
    exact lv_tableIn C.1 C.2.1 hdg (by decide) (by decide) (off := o13) rfl h13 (k13 rfl p e R s m args below meth c H locs cells slots Q arr C hS hP hv K)
  by_cases e14 : x = 14
  · intro p e R s m args below meth c H locs cells slots Q arr C hS hP hv K
    subst e14
    exact lv_tableIn C.1 C.2.1 hdg (by decide) (by decide) (off := o14) rfl h14 (k14 rfl p e R s m args below meth c H locs cells slots Q arr C hS hP hv K)
  by_cases e15 : x = 15
  · intro p e R s m args below meth c H locs cells slots Q arr C hS hP hv K
    subst e15
    exact lv_tableIn C.1 C.2.1 hdg (by decide) (by decide) (off := o15) rfl h15 (k15 rfl p e R s m args below meth c H locs cells slots Q arr C hS hP hv K)
  by_cases e16 : x = 16
  · intro p e R s m args below meth c H locs cells slots Q arr C hS hP hv K
    subst e16
    exact lv_tableIn C.1 C.2.1 hdg (by decide) (by decide) (off := o16) rfl h16 (k16 rfl p e R s m args below meth c H locs cells slots Q arr C hS hP hv K)
  by_cases e17 : x = 17
  · intro p e R s m args below meth c H locs cells slots Q arr C hS hP hv K
    subst e17
    exact lv_tableIn C.1 C.2.1 hdg (by decide) (by decide) (off := o17) rfl h17 (k17 rfl p e R s m args below meth c H locs cells slots Q arr C hS hP hv K)
  by_cases e18 : x = 18
  · intro p e R s m args below meth c H locs cells slots Q arr C hS hP hv K
    subst e18
    exact lv_tableIn C.1 C.2.1 hdg (by decide) (by decide) (off := o18) rfl h18 (k18 rfl p e R s m args below meth c H locs cells slots Q arr C hS hP hv K)
  by_cases e19 : x = 19
  · intro p e R s m args below meth c H locs cells slots Q arr C hS hP hv K
    subst e19
    exact lv_tableIn C.1 C.2.1 hdg (by decide) (by decide) (off := o19) rfl h19 (k19 rfl p e R s m args below meth c H locs cells slots Q arr C hS hP hv K)
  by_cases e20 : x = 20
  · intro p e R s m args below meth c H locs cells slots Q arr C hS hP hv K
    subst e20
    exact lv_tableIn C.1 C.2.1 hdg (by decide) (by decide) (off := o20) rfl h20 (k20 rfl p e R s m args below meth c H locs cells slots Q arr C hS hP hv K)
  by_cases e21 : x = 21
  · intro p e R s m args below meth c H locs cells slots Q arr C hS hP hv K
    subst e21
    exact lv_tableIn C.1 C.2.1 hdg (by decide) (by decide) (off := o21) rfl h21 (k21 rfl p e R s m args below meth c H locs cells slots Q arr C hS hP hv K)
  by_cases e22 : x = 22
  · intro p e R s m args below meth c H locs cells slots Q arr C hS hP hv K
    subst e22
    exact lv_tableIn C.1 C.2.1 hdg (by decide) (by decide) (off := o22) rfl h22 (k22 rfl p e R s m args below meth c H locs cells slots Q arr C hS hP hv K)
  by_cases e23 : x = 23
  · intro p e R s m args below meth c H locs cells slots Q arr C hS hP hv K
    subst e23
    exact lv_tableIn C.1 C.2.1 hdg (by decide) (by decide) (off := o23) rfl h23 (k23 rfl p e R s m args below meth c H locs cells slots Q arr C hS hP hv K)
  by_cases e24 : x = 24
  · intro p e R s m args below meth c H locs cells slots Q arr C hS hP hv K
    subst e24
    exact lv_tableIn C.1 C.2.1 hdg (by decide) (by decide) (off := o24) rfl h24 (k24 rfl p e R s m args below meth c H locs cells slots Q arr C hS hP hv K)
  by_cases e25 : x = 25
  · intro p e R s m args below meth c H locs cells slots Q arr C hS hP hv K
    subst e25
    exact lv_tableIn C.1 C.2.1 hdg (by decide) (by decide) (off := o25) rfl h25 (k25 rfl p e R s m args below meth c H locs cells slots Q arr C hS hP hv K)
  by_cases e26 : x = 26
  · intro p e R s m args below meth c H locs cells slots Q arr C hS hP hv K
    subst e26
    exact lv_tableIn C.1 C.2.1 hdg (by decide) (by decide) (off := o26) rfl h26 (k26 rfl p e R s m args below meth c H locs cells slots Q arr C hS hP hv K)
  by_cases e27 : x = 27
  · intro p e R s m args below meth c H locs cells slots Q arr C hS hP hv K
    subst e27
    exact lv_tableIn C.1 C.2.1 hdg (by decide) (by decide) (off := o27) rfl h27 (k27 rfl p e R s m args below meth c H locs cells slots Q arr C hS hP hv K)
  by_cases e28 : x = 28
  · intro p e R s m args below meth c H locs cells slots Q arr C hS hP hv K
    subst e28
    exact lv_tableIn C.1 C.2.1 hdg (by decide) (by decide) (off := o28) rfl h28 (k28 rfl p e R s m args below meth c H locs cells slots Q arr C hS hP hv K)
  by_cases e29 : x = 29
  · intro p e R s m args below meth c H locs cells slots Q arr C hS hP hv K
    subst e29
    exact lv_tableIn C.1 C.2.1 hdg (by decide) (by decide) (off := o29) rfl h29 (k29 rfl p e R s m args below meth c H locs cells slots Q arr C hS hP hv K)
  by_cases e30 : x = 30
  · intro p e R s m args below meth c H locs cells slots Q arr C hS hP hv K
    subst e30
    exact lv_tableIn C.1 C.2.1 hdg (by decide) (by decide) (off := o30) rfl h30 (k30 rfl p e R s m args below meth c H locs cells slots Q arr C hS hP hv K)
  by_cases e31 : x = 31
  · intro p e R s m args below meth c H locs cells slots Q arr C hS hP hv K
    subst e31
    exact lv_tableIn C.1 C.2.1 hdg (by decide) (by decide) (off := o31) rfl h31 (k31 rfl p e R s m args below meth c H locs cells slots Q arr C hS hP hv K)
  by_cases e32 : x = 32
  · intro p e R s m args below meth c H locs cells slots Q arr C hS hP hv K
    subst e32
    exact lv_tableIn C.1 C.2.1 hdg (by decide) (by decide) (off := o32) rfl h32 (k32 rfl p e R s m args below meth c H locs cells slots Q arr C hS hP hv K)
  by_cases e33 : x = 33
  · intro p e R s m args below meth c H locs cells slots Q arr C hS hP hv K
    subst e33
    exact lv_tableIn C.1 C.2.1 hdg (by decide) (by decide) (off := o33) rfl h33 (k33 rfl p e R s m args below meth c H locs cells slots Q arr C hS hP hv K)
  by_cases e34 : x = 34
  · intro p e R s m args below meth c H locs cells slots Q arr C hS hP hv K
    subst e34
    exact lv_tableIn C.1 C.2.1 hdg (by decide) (by decide) (off := o34) rfl h34 (k34 rfl p e R s m args below meth c H locs cells slots Q arr C hS hP hv K)
  by_cases e35 : x = 35
  · intro p e R s m args below meth c H locs cells slots Q arr C hS hP hv K
    subst e35
    exact lv_tableIn C.1 C.2.1 hdg (by decide) (by decide) (off := o35) rfl h35 (k35 rfl p e R s m args below meth c H locs cells slots Q arr C hS hP hv K)
  by_cases e36 : x = 36
  · intro p e R s m args below meth c H locs cells slots Q arr C hS hP hv K
    subst e36
    exact lv_tableIn C.1 C.2.1 hdg (by decide) (by decide) (off := o36) rfl h36 (k36 rfl p e R s m args below meth c H locs cells slots Q arr C hS hP hv K)
  by_cases e37 : x = 37
  · intro p e R s m args below meth c H locs cells slots Q arr C hS hP hv K
    subst e37
    exact lv_tableIn C.1 C.2.1 hdg (by decide) (by decide) (off := o37) rfl h37 (k37 rfl p e R s m args below meth c H locs cells slots Q arr C hS hP hv K)
  by_cases e38 : x = 38
  · intro p e R s m args below meth c H locs cells slots Q arr C hS hP hv K
    subst e38
    exact lv_tableIn C.1 C.2.1 hdg (by decide) (by decide) (off := o38) rfl h38 (k38 rfl p e R s m args below meth c H locs cells slots Q arr C hS hP hv K)
  intro p e R s m args below meth c H locs cells slots Q arr C hS hP hv K
  refine lv_tableOut C.1 C.2.1 hdg ?_ hd (kd e0 e1 e2 e3 e4 e5 e6 e7 e8 e9 e10 e11 e12 e13 e14 e15 e16 e17 e18 e19 e20 e21 e22 e23 e24 e25 e26 e27 e28 e29 e30 e31 e32 e33 e34 e35 e36 e37 e38 p e R s m args below meth c H locs cells slots Q arr C hS hP hv K)
  have f0 : x.toInt ≠ 0 := fun z => e0 (Int32.toInt_inj.mp z)
  have f1 : x.toInt ≠ 1 := fun z => e1 (Int32.toInt_inj.mp z)
  have f2 : x.toInt ≠ 2 := fun z => e2 (Int32.toInt_inj.mp z)
  have f3 : x.toInt ≠ 3 := fun z => e3 (Int32.toInt_inj.mp z)
  have f4 : x.toInt ≠ 4 := fun z => e4 (Int32.toInt_inj.mp z)
  have f5 : x.toInt ≠ 5 := fun z => e5 (Int32.toInt_inj.mp z)
  have f6 : x.toInt ≠ 6 := fun z => e6 (Int32.toInt_inj.mp z)
  have f7 : x.toInt ≠ 7 := fun z => e7 (Int32.toInt_inj.mp z)
  have f8 : x.toInt ≠ 8 := fun z => e8 (Int32.toInt_inj.mp z)
  have f9 : x.toInt ≠ 9 := fun z => e9 (Int32.toInt_inj.mp z)
  have f10 : x.toInt ≠ 10 := fun z => e10 (Int32.toInt_inj.mp z)
  have f11 : x.toInt ≠ 11 := fun z => e11 (Int32.toInt_inj.mp z)
  have f12 : x.toInt ≠ 12 := fun z => e12 (Int32.toInt_inj.mp z)
  have f13 : x.toInt ≠ 13 := fun z => e13 (Int32.toInt_inj.mp z)
  have f14 : x.toInt ≠ 14 := fun z => e14 (Int32.toInt_inj.mp z)
  have f15 : x.toInt ≠ 15 := fun z => e15 (Int32.toInt_inj.mp z)
  have f16 : x.toInt ≠ 16 := fun z => e16 (Int32.toInt_inj.mp z)
  have f17 : x.toInt ≠ 17 := fun z => e17 (Int32.toInt_inj.mp z)
  have f18 : x.toInt ≠ 18 := fun z => e18 (Int32.toInt_inj.mp z)
  have f19 : x.toInt ≠ 19 := fun z => e19 (Int32.toInt_inj.mp z)
  have f20 : x.toInt ≠ 20 := fun z => e20 (Int32.toInt_inj.mp z)
  have f21 : x.toInt ≠ 21 := fun z => e21 (Int32.toInt_inj.mp z)
  have f22 : x.toInt ≠ 22 := fun z => e22 (Int32.toInt_inj.mp z)
  have f23 : x.toInt ≠ 23 := fun z => e23 (Int32.toInt_inj.mp z)
  have f24 : x.toInt ≠ 24 := fun z => e24 (Int32.toInt_inj.mp z)
  have f25 : x.toInt ≠ 25 := fun z => e25 (Int32.toInt_inj.mp z)
  have f26 : x.toInt ≠ 26 := fun z => e26 (Int32.toInt_inj.mp z)
  have f27 : x.toInt ≠ 27 := fun z => e27 (Int32.toInt_inj.mp z)
  have f28 : x.toInt ≠ 28 := fun z => e28 (Int32.toInt_inj.mp z)
  have f29 : x.toInt ≠ 29 := fun z => e29 (Int32.toInt_inj.mp z)
  have f30 : x.toInt ≠ 30 := fun z => e30 (Int32.toInt_inj.mp z)
  have f31 : x.toInt ≠ 31 := fun z => e31 (Int32.toInt_inj.mp z)
  have f32 : x.toInt ≠ 32 := fun z => e32 (Int32.toInt_inj.mp z)
  have f33 : x.toInt ≠ 33 := fun z => e33 (Int32.toInt_inj.mp z)
  have f34 : x.toInt ≠ 34 := fun z => e34 (Int32.toInt_inj.mp z)
  have f35 : x.toInt ≠ 35 := fun z => e35 (Int32.toInt_inj.mp z)
  have f36 : x.toInt ≠ 36 := fun z => e36 (Int32.toInt_inj.mp z)
  have f37 : x.toInt ≠ 37 := fun z => e37 (Int32.toInt_inj.mp z)
  have f38 : x.toInt ≠ 38 := fun z => e38 (Int32.toInt_inj.mp z)
  omega
end JN
theorem rf_farm {n : Nat} (h : n < 7) : rf 9 n = 16 + n := by
  rcases (show n = 0 ∨ n = 1 ∨ n = 2 ∨ n = 3 ∨ n = 4 ∨ n = 5 ∨ n = 6 by omega) with rfl | rfl | rfl | rfl | rfl | rfl | rfl <;> rfl
theorem rf_farmK {n : Nat} (h : n < 7) : rf 32 n = 39 + n := by
  rcases (show n = 0 ∨ n = 1 ∨ n = 2 ∨ n = 3 ∨ n = 4 ∨ n = 5 ∨ n = 6 by omega) with rfl | rfl | rfl | rfl | rfl | rfl | rfl <;> rfl
theorem tC_farm {n : Nat} (h : n < 7) : tC[16 + n]? = some (3, 0) := by
  rcases (show n = 0 ∨ n = 1 ∨ n = 2 ∨ n = 3 ∨ n = 4 ∨ n = 5 ∨ n = 6 by omega) with rfl | rfl | rfl | rfl | rfl | rfl | rfl <;> rfl
theorem tC_farmK {n : Nat} (h : n < 7) : tC[39 + n]? = some (3, 0) := by
  rcases (show n = 0 ∨ n = 1 ∨ n = 2 ∨ n = 3 ∨ n = 4 ∨ n = 5 ∨ n = 6 by omega) with rfl | rfl | rfl | rfl | rfl | rfl | rfl <;> rfl
theorem ob_of {b ci : Nat} {q : vw_C} (h : tC[b]? = some (3, ci)) (hc : clsL[ci]? = some q) : OB b q.1 := .inl ⟨ci, q, h, hc, rfl⟩

