theorem nI_s {n : Nat} : nI n + 1 = nI (n + 1) := by rw [show (1 : Int32) = nI 1 from rfl, nI_add]
theorem nI_s1 {n : Nat} : nI n + 1 - 1 = nI n := by grind
theorem I2.farmv {σ ρ : S_} (h : I2 σ ρ) {n k : Nat} (hn : n < 7) (hk : k < 6) {v : Int32} (hv : fkB k v) : I2 (up σ (16 + n) k v) (up ρ 71 (10 + 6 * n + k) v) := by
  have hb : ∀ n', n' < 7 → ∀ k', k' < 6 → 10 + 6 * n + k = 10 + 6 * n' + k' → fkB k' v := fun n' a k' b e => by
    obtain rfl : k = k' := by omega
    exact hv
  exact h.lm (LM_farm n hn k hk) (by omega) (h.2.1.set (by omega) (by omega) (by omega) (by omega) (by omega) (by omega) (by omega) (fun c hc => ⟨by omega, by omega⟩) hb)
theorem BD.in2 {t : Nat → Int32} (h : BD t) {m : Nat} {v : Int32} (hm : m < 60 ∨ 370 ≤ m) (c : m ≠ 5 ∧ m ≠ 6 ∧ m ≠ 3 ∧ m ≠ 4 ∧ m ≠ 1) (c7 : ∀ p, p < 3 → m = 7 + p → bw v 999) (cb : ∀ c, c < 4 → (m = 52 + 2 * c → bw v 300) ∧ (m = 52 + 2 * c + 1 → bw v 99999)) (hf : m < 10 ∨ 52 ≤ m) : BD (upd t m v) :=
  h.set hm (fun q => absurd q c.1) (fun q => absurd q c.2.1) (fun q => absurd q c.2.2.1) (fun q => absurd q c.2.2.2.1) (fun q => absurd q c.2.2.2.2) c7 cb (fun n hn k hk e => absurd e (by clear c7 cb; omega))
theorem I2.water {σ ρ : S_} (h : I2 σ ρ) {p : Nat} (hp : p < 3) {v : Int32} (hv : bw v 999) : I2 (up σ 12 p v) (up ρ 71 (7 + p) v) := h.lm (LM_water p hp) (by omega) (h.2.1.in2 (by omega) (by omega) (fun _ _ _ => hv) (fun c hc => ⟨fun q => absurd q (by omega), fun q => absurd q (by omega)⟩) (by omega))
theorem I2.belly {σ ρ : S_} (h : I2 σ ρ) {p : Nat} (hp : p < 4) {v : Int32} (hv : bw v 300) : I2 (up σ 10 p v) (up ρ 71 (52 + 2 * p) v) := h.lm (LM_belly p hp) (by omega) (h.2.1.in2 (by omega) (by omega) (fun q hq e => absurd e (by omega)) (fun c hc => ⟨fun _ => hv, fun q => absurd q (by omega)⟩) (by omega))
theorem I2.earned {σ ρ : S_} (h : I2 σ ρ) {p : Nat} (hp : p < 4) {v : Int32} (hv : bw v 99999) : I2 (up σ 11 p v) (up ρ 71 (52 + 2 * p + 1) v) := h.lm (LM_earned p hp) (by omega) (h.2.1.in2 (by omega) (by omega) (fun q hq e => absurd e (by omega)) (fun c hc => ⟨fun q => absurd q (by omega), fun _ => hv⟩) (by omega))
theorem I2.wait {σ ρ : S_} (h : I2 σ ρ) {p : Nat} (hp : p < 24) {v : Int32} : I2 (up σ 15 p v) (up ρ 71 (370 + p) v) := h.lm (LM_wait p hp) (by omega) (h.2.1.in2 (by omega) (by omega) (fun q hq e => absurd e (by omega)) (fun c hc => ⟨fun q => absurd q (by omega), fun q => absurd q (by omega)⟩) (by omega))
theorem I2.hourv {σ ρ : S_} (h : I2 σ ρ) {v : Int32} : I2 (up σ 8 6 v) (up ρ 71 0 v) := h.lm LM_hour rfl (BD_hour h.2.1 (.inl rfl))
theorem I2.seedv {σ ρ : S_} (h : I2 σ ρ) {v : Int32} : I2 (up σ 8 8 v) (up ρ 71 2 v) := h.lm LM_z rfl (BD_hour h.2.1 (.inr rfl))
theorem BD.cnt {t : Nat → Int32} (h : BD t) {m b n : Nat} {v : Int32} (hm : (m = 5 ∧ b = 7) ∨ (m = 6 ∧ b = 4) ∨ (m = 3 ∧ b = 60) ∨ (m = 4 ∧ b = 24)) (hn : n ≤ b) (hv : v = nI n) : BD (upd t m v) :=
  h.set (by omega) (fun q => ⟨n, by omega, hv⟩) (fun q => ⟨n, by omega, hv⟩) (fun q => ⟨n, by omega, hv⟩) (fun q => ⟨n, by omega, hv⟩) (fun q => absurd q (by omega)) (fun p hp e => absurd e (by omega)) (fun c hc => ⟨fun q => absurd q (by omega), fun q => absurd q (by omega)⟩) (fun n hn k hk e => absurd e (by omega))
theorem I2.nfv {σ ρ : S_} (h : I2 σ ρ) {n : Nat} (hn : n ≤ 7) {v : Int32} (hv : v = nI n) : I2 (up σ 8 1 v) (up ρ 71 5 v) := h.lm LM_farms rfl (h.2.1.cnt (.inl ⟨rfl, rfl⟩) hn hv)
theorem I2.ncv {σ ρ : S_} (h : I2 σ ρ) {n : Nat} (hn : n ≤ 4) {v : Int32} (hv : v = nI n) : I2 (up σ 8 4 v) (up ρ 71 6 v) := h.lm LM_carriers rfl (h.2.1.cnt (.inr (.inl ⟨rfl, rfl⟩)) hn hv)
theorem I2.ntv {σ ρ : S_} (h : I2 σ ρ) {n : Nat} (hn : n ≤ 60) {v : Int32} (hv : v = nI n) : I2 (up σ 8 10 v) (up ρ 71 3 v) := h.lm LM_taped rfl (h.2.1.cnt (.inr (.inr (.inl ⟨rfl, rfl⟩))) hn hv)
theorem I2.nwv {σ ρ : S_} (h : I2 σ ρ) {n : Nat} (hn : n ≤ 24) {v : Int32} (hv : v = nI n) : I2 (up σ 8 13 v) (up ρ 71 4 v) := h.lm LM_waits rfl (h.2.1.cnt (.inr (.inr (.inr ⟨rfl, rfl⟩))) hn hv)
theorem km_dec : ∀ j, j ≤ 69 → bw (qK (nI j)) 6 ∧ bw (rK (nI j)) 9 := by unfold bw; decide +kernel
theorem km_bw {v : Int32} (h : 0 ≤ v ∧ v ≤ 69) : bw (qK v) 6 ∧ bw (rK v) 9 := by
  obtain ⟨j, hj, rfl⟩ := zI_in (b := 69) (by decide) h
  exact km_dec j hj
theorem bw0 {v : Int32} (h : 0 ≤ v) : bw 0 v := ⟨by decide, h⟩
theorem up_cm {σ : S_} {a k k' : Nat} {v v' : Int32} (h : k ≠ k') : up (up σ a k v) a k' v' = up (up σ a k' v') a k v := by
  funext b j
  unfold up
  by_cases q : b = a
  · by_cases r : j = k
    · by_cases s : j = k'
      · exact absurd (r.symm.trans s) h
      · simp only [if_pos q, if_pos r, if_neg s, if_neg h]
    · simp only [if_pos q, if_neg r]
  · simp only [if_neg q]
theorem in_1 {v : Int32} (h : 1 ≤ v) : 0 ≤ v := Int32.le_trans (by decide) h
theorem op_farm {g : GT} {σ : S_} (h : IN σ) {km s hd : Int32} : OP g σ M_X7_farm M_X8_farm [.int km, .int s, .int hd] := by
  obtain ⟨nf, h7, e7, e8⟩ := h.nf
  obtain ⟨nc, h4, q7, q8⟩ := h.nc
  have hC := h.c
  have hB := h.b
  by_cases c : (0 ≤ km ∧ km ≤ 69) ∧ (1 ≤ s ∧ s ≤ 40) ∧ (0 ≤ hd ∧ hd ≤ 30)
  · obtain ⟨p1, p2, p3⟩ := c
    obtain ⟨kq, kr⟩ := km_bw p1
    by_cases f : nf = 7
    · subst f
      exact OP.rf h (by decide) (by decide) (ct_X7_farm_full p1 p2 p3 e7) (by decide) (ct_X8_farm_full (σ := rfz σ 4) p1 p2 p3 e8)
    · have hn : nf < 7 := by omega
      refine OP.eq (by decide) (ct_X7_farm_ok p1 p2 p3 hn e7) (by decide) (ct_X8_farm_ok (σ := (up (up (up (up (up (up (up σ (16 + nf) 0 (qK km)) (16 + nf) 1 (rK km)) (16 + nf) 2 s) (16 + nf) 3 hd) (16 + nf) 4 0) (16 + nf) 5 0) 8 1 (nI nf + 1))) p1 p2 p3 hn (by simp only [up_row (show 71 ≠ 16 + nf by omega), up_row (show 71 ≠ 8 by omega)]; exact e8)) nI_s1.symm ?_
      exact IN.of (((((((I2.farmv (σ := σ) (ρ := σ) h hn (k := 0) (by decide) (.inl ⟨rfl, kq⟩)).farmv hn (k := 1) (by decide) (.inr (.inl ⟨rfl, kr⟩))).farmv hn (k := 2) (by decide) (.inr (.inr (.inl ⟨rfl, in_1 p2.1, p2.2⟩)))).farmv hn (k := 3) (by decide) (.inr (.inr (.inr (.inl ⟨rfl, p3⟩))))).farmv hn (k := 4) (by decide) (.inr (.inr (.inr (.inr (.inl ⟨rfl, bw0 (by decide)⟩)))))).farmv hn (k := 5) (by decide) (.inr (.inr (.inr (.inr (.inr ⟨rfl, bw0 (by decide)⟩)))))).nfv (n := nf + 1) hn nI_s) (fun c hc => by simp only [up_row (show c ≠ 71 by omega)]) (fun c hc => by (repeat apply up_same); simp only [up_row (show c ≠ 16 + nf by omega), up_row (show c ≠ 8 by omega)])
  · exact OP.rf h (by decide) (by decide) (ct_X7_farm_no c) (by decide) (ct_X8_farm_no (σ := rfz σ 1) c)
theorem op_become {g : GT} {σ : S_} (h : IN σ) {f km : Int32} : OP g σ M_X7_become M_X8_become [.int f, .int km] := by
  obtain ⟨nf, h7, e7, e8⟩ := h.nf
  obtain ⟨nc, h4, q7, q8⟩ := h.nc
  have hC := h.c
  have hB := h.b
  by_cases c : (0 ≤ f ∧ f ≤ nI nf - 1) ∧ (0 ≤ km ∧ km ≤ 69)
  · obtain ⟨c1, c2⟩ := c
    obtain ⟨n, hn, rfl⟩ := nI_below (b := nf) (by omega) c1
    obtain ⟨kq, kr⟩ := km_bw c2
    have r8 := ct_X8_become_ok (g := g) (σ := up (up σ (16 + n) 0 (qK km)) (16 + n) 1 (rK km)) hn h7 (by simp only [up_row (show 71 ≠ 16 + n by omega)]; exact e8) c2
    rw [up_cm (show 10 + 6 * n + 1 ≠ 10 + 6 * n + 0 by omega)] at r8
    refine OP.eq (by decide) (ct_X7_become_ok hn h7 e7 c2) (by decide) r8 ?_ ?_
    · rw [up_nk (by omega), up_nc (by omega), up_nc (by omega)]
      exact (hC.farm (by omega) (by decide)).symm
    · exact IN.of ((I2.farmv (σ := σ) (ρ := σ) h (show n < 7 by omega) (k := 0) (by decide) (.inl ⟨rfl, kq⟩)).farmv (show n < 7 by omega) (k := 1) (by decide) (.inr (.inl ⟨rfl, kr⟩))) (fun c hc => by simp only [up_row (show c ≠ 71 by omega)]) (fun c hc => by (repeat apply up_same); simp only [up_row (show c ≠ 16 + n by omega)])
  · exact OP.rf h (by decide) (by decide) (ct_X7_become_no (by rw [e7]; exact c)) (by decide) (ct_X8_become_no (σ := rfz σ 1) (by show ¬ ((0 ≤ f ∧ f ≤ σ 71 5 - 1) ∧ (0 ≤ km ∧ km ≤ 69)); rw [e8]; exact c))
theorem op_parch {g : GT} {σ : S_} (h : IN σ) {f v : Int32} : OP g σ M_X7_parch M_X8_parch [.int f, .int v] := by
  obtain ⟨nf, h7, e7, e8⟩ := h.nf
  obtain ⟨nc, h4, q7, q8⟩ := h.nc
  have hC := h.c
  have hB := h.b
  by_cases c : (0 ≤ f ∧ f ≤ nI nf - 1) ∧ (0 ≤ v ∧ v ≤ 99)
  · obtain ⟨c1, c2⟩ := c
    obtain ⟨n, hn, rfl⟩ := nI_below (b := nf) (by omega) c1
    refine OP.eq (by decide) (ct_X7_parch_ok hn h7 e7 c2) (by decide) (ct_X8_parch_ok (σ := up σ (16 + n) 4 v) hn h7 (by simp only [up_row (show 71 ≠ 16 + n by omega)]; exact e8) c2) ?_ ?_
    · rw [up_nc (by omega)]
      exact (hC.farm (by omega) (by decide)).symm
    · exact IN.of (I2.farmv (σ := σ) (ρ := σ) h (show n < 7 by omega) (k := 4) (by decide) (.inr (.inr (.inr (.inr (.inl ⟨rfl, c2⟩)))))) (fun c hc => by simp only [up_row (show c ≠ 71 by omega)]) (fun c hc => by (repeat apply up_same); simp only [up_row (show c ≠ 16 + n by omega)])
  · exact OP.rf h (by decide) (by decide) (ct_X7_parch_no (by rw [e7]; exact c)) (by decide) (ct_X8_parch_no (σ := rfz σ 1) (by show ¬ ((0 ≤ f ∧ f ≤ σ 71 5 - 1) ∧ (0 ≤ v ∧ v ≤ 99)); rw [e8]; exact c))
theorem op_graze {g : GT} {σ : S_} (h : IN σ) {f v : Int32} : OP g σ M_X7_graze M_X8_graze [.int f, .int v] := by
  obtain ⟨nf, h7, e7, e8⟩ := h.nf
  obtain ⟨nc, h4, q7, q8⟩ := h.nc
  have hC := h.c
  have hB := h.b
  by_cases c : (0 ≤ f ∧ f ≤ nI nf - 1) ∧ (0 ≤ v ∧ v ≤ 30)
  · obtain ⟨c1, c2⟩ := c
    obtain ⟨n, hn, rfl⟩ := nI_below (b := nf) (by omega) c1
    refine OP.eq (by decide) (ct_X7_graze_ok hn h7 e7 c2) (by decide) (ct_X8_graze_ok (σ := up σ (16 + n) 3 v) hn h7 (by simp only [up_row (show 71 ≠ 16 + n by omega)]; exact e8) c2) ?_ ?_
    · rw [up_nc (by omega)]
      exact (hC.farm (by omega) (by decide)).symm
    · exact IN.of (I2.farmv (σ := σ) (ρ := σ) h (show n < 7 by omega) (k := 3) (by decide) (.inr (.inr (.inr (.inl ⟨rfl, c2⟩))))) (fun c hc => by simp only [up_row (show c ≠ 71 by omega)]) (fun c hc => by (repeat apply up_same); simp only [up_row (show c ≠ 16 + n by omega)])
  · exact OP.rf h (by decide) (by decide) (ct_X7_graze_no (by rw [e7]; exact c)) (by decide) (ct_X8_graze_no (σ := rfz σ 1) (by show ¬ ((0 ≤ f ∧ f ≤ σ 71 5 - 1) ∧ (0 ≤ v ∧ v ≤ 30)); rw [e8]; exact c))
theorem op_carrier {g : GT} {σ : S_} (h : IN σ) {b : Int32} : OP g σ M_X7_carrier M_X8_carrier [.int b] := by
  obtain ⟨nf, h7, e7, e8⟩ := h.nf
  obtain ⟨nc, h4, q7, q8⟩ := h.nc
  have hC := h.c
  have hB := h.b
  by_cases c : 1 ≤ b ∧ b ≤ 300
  · by_cases f : nc = 4
    · subst f
      exact OP.rf h (by decide) (by decide) (ct_X7_carrier_full c q7) (by decide) (ct_X8_carrier_full (σ := rfz σ 4) c q8)
    · have hn : nc < 4 := by omega
      refine OP.eq (by decide) (ct_X7_carrier_ok c hn q7) (by decide) (ct_X8_carrier_ok (σ := (up (up (up σ 10 nc b) 11 nc 0) 8 4 (nI nc + 1))) c hn q8) nI_s1.symm ?_
      exact IN.of (((I2.belly (σ := σ) (ρ := σ) h hn ⟨in_1 c.1, c.2⟩).earned hn (bw0 (by decide))).ncv (n := nc + 1) hn nI_s) (fun c hc => by simp only [up_row (show c ≠ 71 by omega)]) (fun c hc => by (repeat apply up_same); simp only [up_row (show c ≠ 10 by omega), up_row (show c ≠ 11 by omega), up_row (show c ≠ 8 by omega)])
  · exact OP.rf h (by decide) (by decide) (ct_X7_carrier_no c) (by decide) (ct_X8_carrier_no (σ := rfz σ 1) c)
theorem op_carrierIs {g : GT} {σ : S_} (h : IN σ) {k x : Int32} : OP g σ M_X7_carrierIs M_X8_carrierIs [.int k, .int x] := by
  obtain ⟨nf, h7, e7, e8⟩ := h.nf
  obtain ⟨nc, h4, q7, q8⟩ := h.nc
  have hC := h.c
  have hB := h.b
  by_cases c : (0 ≤ k ∧ k ≤ nI nc - 1) ∧ (0 ≤ x ∧ x ≤ 1)
  · obtain ⟨c1, c2⟩ := c
    obtain ⟨k, hk, rfl⟩ := nI_below (b := nc) (by omega) c1
    obtain ⟨x, hx1, rfl⟩ := zI_in (b := 1) (by decide) c2
    have hx : x < 2 := by omega
    refine OP.rd h (by decide) (ct_X7_carrierIs_ok hk h4 hx q7) (by decide) (ct_X8_carrierIs_ok hk h4 hx q8) ?_
    rcases (show x = 0 ∨ x = 1 by omega) with rfl | rfl
    · exact (hC.at (LM_belly k (by omega))).symm
    · exact (hC.at (LM_earned k (by omega))).symm
  · exact OP.rf h (by decide) (by decide) (ct_X7_carrierIs_no (by rw [q7]; exact c)) (by decide) (ct_X8_carrierIs_no (σ := rfz σ 1) (by show ¬ ((0 ≤ k ∧ k ≤ σ 71 6 - 1) ∧ (0 ≤ x ∧ x ≤ 1)); rw [q8]; exact c))
theorem op_pool {g : GT} {σ : S_} (h : IN σ) {i v : Int32} : OP g σ M_X7_pool M_X8_pool [.int i, .int v] := by
  obtain ⟨nf, h7, e7, e8⟩ := h.nf
  obtain ⟨nc, h4, q7, q8⟩ := h.nc
  have hC := h.c
  have hB := h.b
  by_cases c : (0 ≤ i ∧ i ≤ 2) ∧ (0 ≤ v ∧ v ≤ 999)
  · obtain ⟨c1, c2⟩ := c
    obtain ⟨i, hi0, rfl⟩ := zI_in (b := 2) (by decide) c1
    have hi : i < 3 := by omega
    refine OP.eq (by decide) (ct_X7_pool_ok hi c2) (by decide) (ct_X8_pool_ok (σ := up σ 12 i v) hi c2) ?_ ?_
    · exact (hC.water hi).symm
    · exact IN.of (I2.water (σ := σ) (ρ := σ) h hi c2) (fun c hc => by simp only [up_row (show c ≠ 71 by omega)]) (fun c hc => by (repeat apply up_same); simp only [up_row (show c ≠ 12 by omega)])
  · exact OP.rf h (by decide) (by decide) (ct_X7_pool_no c) (by decide) (ct_X8_pool_no (σ := rfz σ 1) c)
theorem op_swap {g : GT} {σ : S_} (h : IN σ) {a b : Int32} : OP g σ M_X7_swap M_X8_swap [.int a, .int b] := by
  obtain ⟨nf, h7, e7, e8⟩ := h.nf
  obtain ⟨nc, h4, q7, q8⟩ := h.nc
  have hC := h.c
  have hB := h.b
  by_cases c : (0 ≤ a ∧ a ≤ nI nf - 1) ∧ (0 ≤ b ∧ b ≤ nI nf - 1) ∧ ¬ a = b
  · obtain ⟨c1, c2, c3⟩ := c
    obtain ⟨n, hn, rfl⟩ := nI_below (b := nf) (by omega) c1
    obtain ⟨k, hk, rfl⟩ := nI_below (b := nf) (by omega) c2
    have hnk : n ≠ k := fun q => c3 (by rw [q])
    have w1 : (up (up σ (16 + n) 4 (σ (16 + k) 4)) (16 + k) 4 (σ (16 + n) 4)) 71 (10 + 6 * k + 4) = σ (16 + k) 4 := by
      rw [up_nc (by omega), up_nc (by omega)]
      exact (hC.farm (by omega) (by decide)).symm
    have w2 : (up (up σ (16 + n) 4 (σ (16 + k) 4)) (16 + k) 4 (σ (16 + n) 4)) 71 (10 + 6 * n + 4) = σ (16 + n) 4 := by
      rw [up_nc (by omega), up_nc (by omega)]
      exact (hC.farm (by omega) (by decide)).symm
    have r8 := ct_X8_swap_ok (g := g) (σ := (up (up σ (16 + n) 4 (σ (16 + k) 4)) (16 + k) 4 (σ (16 + n) 4))) hn hk hnk h7 (by simp only [up_row (show 71 ≠ 16 + n by omega), up_row (show 71 ≠ 16 + k by omega)]; exact e8)
    rw [w1, w2] at r8
    have f1 := (hB.fb (n := k) (by omega)).2.2.2.2.1
    have f2 := (hB.fb (n := n) (by omega)).2.2.2.2.1
    rw [← hC.farm (by omega) (by decide)] at f1 f2
    refine OP.eq (by decide) (ct_X7_swap_ok hn hk hnk h7 e7) (by decide) r8 ?_ ?_
    · rw [up_nk (by omega), up_at, up_nc (by omega), up_at]
    · exact IN.of ((I2.farmv (σ := σ) (ρ := σ) h (show n < 7 by omega) (k := 4) (by decide) (.inr (.inr (.inr (.inr (.inl ⟨rfl, f1⟩)))))).farmv (show k < 7 by omega) (k := 4) (by decide) (.inr (.inr (.inr (.inr (.inl ⟨rfl, f2⟩)))))) (fun c hc => by simp only [up_row (show c ≠ 71 by omega)]) (fun c hc => by (repeat apply up_same); simp only [up_row (show c ≠ 16 + n by omega), up_row (show c ≠ 16 + k by omega)])
  · exact OP.rf h (by decide) (by decide) (ct_X7_swap_no (by rw [e7]; exact c)) (by decide) (ct_X8_swap_no (σ := rfz σ 1) (by show ¬ ((0 ≤ a ∧ a ≤ σ 71 5 - 1) ∧ (0 ≤ b ∧ b ≤ σ 71 5 - 1) ∧ ¬ a = b); rw [e8]; exact c))
theorem op_hour {g : GT} {σ : S_} (h : IN σ) {v : Int32} : OP g σ M_X7_hour M_X8_hour [.int v] := by
  obtain ⟨nf, h7, e7, e8⟩ := h.nf
  obtain ⟨nc, h4, q7, q8⟩ := h.nc
  have hC := h.c
  have hB := h.b
  by_cases c : 0 ≤ v ∧ v ≤ 9999
  · exact OP.eq (by decide) (ct_X7_hour_ok c) (by decide) (ct_X8_hour_ok (σ := up σ 8 6 v) c) (hC.at LM_hour).symm (IN.of (I2.hourv (σ := σ) (ρ := σ) h (v := v)) (fun c hc => by simp only [up_row (show c ≠ 71 by omega)]) (fun c hc => by (repeat apply up_same); simp only [up_row (show c ≠ 8 by omega)]))
  · exact OP.rf h (by decide) (by decide) (ct_X7_hour_no c) (by decide) (ct_X8_hour_no (σ := rfz σ 1) c)
theorem op_seed {g : GT} {σ : S_} (h : IN σ) {v : Int32} : OP g σ M_X7_seed M_X8_seed [.int v] := by
  obtain ⟨nf, h7, e7, e8⟩ := h.nf
  obtain ⟨nc, h4, q7, q8⟩ := h.nc
  have hC := h.c
  have hB := h.b
  exact OP.eq (by decide) ct_X7_seed (by decide) (ct_X8_seed (σ := up σ 8 8 v)) (hC.at LM_z).symm (IN.of (I2.seedv (σ := σ) (ρ := σ) h (v := v)) (fun c hc => by simp only [up_row (show c ≠ 71 by omega)]) (fun c hc => by (repeat apply up_same); simp only [up_row (show c ≠ 8 by omega)]))
theorem op_tell {g : GT} {σ : S_} (h : IN σ) {v : Int32} : OP g σ M_X7_tell M_X8_tell [.int v] := by
  obtain ⟨nf, h7, e7, e8⟩ := h.nf
  obtain ⟨nc, h4, q7, q8⟩ := h.nc
  have hC := h.c
  have hB := h.b
  obtain ⟨nw, hw, w7, w8⟩ := h.nw
  by_cases f : nw = 24
  · subst f
    exact OP.rf h (by decide) (by decide) (ct_X7_tell_full w7) (by decide) (ct_X8_tell_full (σ := rfz σ 4) w8)
  · have hn : nw < 24 := by omega
    exact OP.eq (by decide) (ct_X7_tell_ok hn w7) (by decide) (ct_X8_tell_ok (σ := up (up σ 15 nw v) 8 13 (nI nw + 1)) hn w8) rfl (IN.of ((I2.wait (σ := σ) (ρ := σ) h hn (v := v)).nwv (n := nw + 1) hn nI_s) (fun c hc => by simp only [up_row (show c ≠ 71 by omega)]) (fun c hc => by (repeat apply up_same); simp only [up_row (show c ≠ 15 by omega), up_row (show c ≠ 8 by omega)]))
theorem op_check {g : GT} {σ : S_} (h : IN σ)  : OP g σ M_X7_check M_X8_check [] := by
  obtain ⟨nf, h7, e7, e8⟩ := h.nf
  obtain ⟨nc, h4, q7, q8⟩ := h.nc
  have hC := h.c
  have hB := h.b
  obtain ⟨nw, hw, w7, w8⟩ := h.nw
  refine OP.eq (by decide) (ct_X7_check hw h4 w7 q7) (by decide) (ct_X8_check (σ := up σ 8 13 0) hw h4 w8 q8) ?_ (IN.of (I2.nwv (σ := σ) (ρ := σ) h (n := 0) (v := 0) (by decide) rfl) (fun c hc => by simp only [up_row (show c ≠ 71 by omega)]) (fun c hc => by (repeat apply up_same); simp only [up_row (show c ≠ 8 by omega)]))
  exact chk_ext h4 nw 0 (by omega) (fun j hj => (hC.at (LM_wait j hj)).symm) (fun j hj => (hC.at (LM_earned j hj)).symm)
theorem op_told {g : GT} {σ : S_} (h : IN σ) {k : Int32} : OP g σ M_X7_told M_X8_told [.int k] := by
  obtain ⟨nf, h7, e7, e8⟩ := h.nf
  obtain ⟨nc, h4, q7, q8⟩ := h.nc
  have hC := h.c
  have hB := h.b
  by_cases c : 1 ≤ k ∧ k ≤ 6
  · obtain ⟨k, k1, k6, rfl⟩ := nI_betw (a := 1) (b := 6) (by decide) (by decide) c
    exact OP.rd h (by decide) (ct_X7_told_ok k1 k6) (by decide) (ct_X8_told_ok k1 k6) (h.2.2.2.1 k (by omega)).symm
  · exact OP.rf h (by decide) (by decide) (ct_X7_told_no c) (by decide) (ct_X8_told_no (σ := rfz σ 1) c)
theorem op_body {g : GT} {σ : S_} (h : IN σ) {i : Int32} : OP g σ M_X7_body M_X8_body [.int i] := by
  obtain ⟨nf, h7, e7, e8⟩ := h.nf
  obtain ⟨nc, h4, q7, q8⟩ := h.nc
  have hC := h.c
  have hB := h.b
  obtain ⟨b, hb, b1, b2, b3⟩ := h.2.2.2.2.1
  by_cases c : 0 ≤ i ∧ i ≤ nI b - 1
  · obtain ⟨i, hi, rfl⟩ := nI_below (by omega) c
    exact OP.rd h (by decide) (ct_X7_body_ok hi hb b1) (by decide) (ct_X8_body_ok hi hb b2) (b3 i (by omega)).symm
  · exact OP.rf h (by decide) (by decide) (ct_X7_body_no (by rw [b1]; exact c)) (by decide) (ct_X8_body_no (σ := rfz σ 2) (by show ¬ (0 ≤ i ∧ i ≤ σ 70 17 - 1); rw [b2]; exact c))
theorem op_as {g : GT} {σ : S_} (h : IN σ) {f k : Int32} : OP g σ M_X7_as M_X8_as [.int f, .int k] := by
  obtain ⟨nf, h7, e7, e8⟩ := h.nf
  obtain ⟨nc, h4, q7, q8⟩ := h.nc
  have hC := h.c
  have hB := h.b
  by_cases c : (0 ≤ f ∧ f ≤ nI nf - 1) ∧ (0 ≤ k ∧ k ≤ 6)
  · obtain ⟨c1, c2⟩ := c
    obtain ⟨n, hn, rfl⟩ := nI_below (b := nf) (by omega) c1
    obtain ⟨k, hk0, rfl⟩ := zI_in (b := 6) (by decide) c2
    have hk : k < 7 := by omega
    obtain ⟨a, ha0, ea⟩ := zI_in (b := 6) (by decide) (hB.fb (n := n) (by omega)).1
    have ha : a < 7 := by omega
    have r7 := ct_X7_as_ok (g := g) hn h7 ha hk e7 ((hC.farm (k := 0) (by omega) (by decide)).trans ea)
    by_cases u : umB a k = true
    · have r8 := ct_X8_as_ok (g := g) (σ := σ) hn h7 ha hk e8 ea
      rw [if_pos u] at r7 r8
      exact OP.rd h (by decide) r7 (by decide) r8 (hC.farm (by omega) (by decide)).symm
    · have r8 := ct_X8_as_ok (g := g) (σ := rfz σ 5) hn h7 ha hk e8 ea
      rw [if_neg u] at r7 r8
      exact OP.rf h (by decide) (by decide) r7 (by decide) r8
  · exact OP.rf h (by decide) (by decide) (ct_X7_as_no (by rw [e7]; exact c)) (by decide) (ct_X8_as_no (σ := rfz σ 1) (by show ¬ ((0 ≤ f ∧ f ≤ σ 71 5 - 1) ∧ (0 ≤ k ∧ k ≤ 6)); rw [e8]; exact c))
theorem op_count {g : GT} {σ : S_} (h : IN σ) {x : Int32} : OP g σ M_X7_count M_X8_count [.int x] := by
  obtain ⟨nf, h7, e7, e8⟩ := h.nf
  obtain ⟨nc, h4, q7, q8⟩ := h.nc
  have hC := h.c
  have hB := h.b
  have r7 := ct_X7_count (g := g) (σ := σ) (x := x)
  obtain ⟨b, hb, b1, b2, b3⟩ := h.2.2.2.2.1
  have TR : σ 60 1 = σ 70 17 := b1.trans b2.symm
  by_cases c0 : x = 0
  · have r8 := ct_X8_count (g := g) (σ := σ) (x := x)
    unfold cntZ7 at r7
    unfold cntZ8 at r8
    rw [if_pos c0] at r7 r8
    exact OP.rd h (by decide) r7 (by decide) r8 (hC.at LM_farms).symm
  by_cases c1 : x = 1
  · have r8 := ct_X8_count (g := g) (σ := σ) (x := x)
    unfold cntZ7 at r7
    unfold cntZ8 at r8
    rw [if_neg c0, if_pos c1] at r7 r8
    exact OP.rd h (by decide) r7 (by decide) r8 (hC.at LM_carriers).symm
  by_cases c2 : x = 2
  · have r8 := ct_X8_count (g := g) (σ := σ) (x := x)
    unfold cntZ7 at r7
    unfold cntZ8 at r8
    rw [if_neg c0, if_neg c1, if_pos c2] at r7 r8
    exact OP.rd h (by decide) r7 (by decide) r8 (hC.at LM_hour).symm
  by_cases c3 : x = 3
  · have r8 := ct_X8_count (g := g) (σ := σ) (x := x)
    unfold cntZ7 at r7
    unfold cntZ8 at r8
    rw [if_neg c0, if_neg c1, if_neg c2, if_pos c3] at r7 r8
    exact OP.rd h (by decide) r7 (by decide) r8 (hC.at LM_parched).symm
  by_cases c4 : x = 4
  · have r8 := ct_X8_count (g := g) (σ := σ) (x := x)
    unfold cntZ7 at r7
    unfold cntZ8 at r8
    rw [if_neg c0, if_neg c1, if_neg c2, if_neg c3, if_pos c4] at r7 r8
    exact OP.rd h (by decide) r7 (by decide) r8 (hC.at LM_taped).symm
  by_cases c5 : x = 5
  · have r8 := ct_X8_count (g := g) (σ := σ) (x := x)
    unfold cntZ7 at r7
    unfold cntZ8 at r8
    rw [if_neg c0, if_neg c1, if_neg c2, if_neg c3, if_neg c4, if_pos c5] at r7 r8
    exact OP.rd h (by decide) r7 (by decide) r8 (hC.at LM_waits).symm
  by_cases c6 : x = 6
  · have r8 := ct_X8_count (g := g) (σ := σ) (x := x)
    unfold cntZ7 at r7
    unfold cntZ8 at r8
    rw [if_neg c0, if_neg c1, if_neg c2, if_neg c3, if_neg c4, if_neg c5, if_pos c6] at r7 r8
    exact OP.rd h (by decide) r7 (by decide) r8 (TR).symm
  by_cases c7 : x = 7
  · have r8 := ct_X8_count (g := g) (σ := σ) (x := x)
    unfold cntZ7 at r7
    unfold cntZ8 at r8
    rw [if_neg c0, if_neg c1, if_neg c2, if_neg c3, if_neg c4, if_neg c5, if_neg c6, if_pos c7] at r7 r8
    exact OP.rd h (by decide) r7 (by decide) r8 (hC.at LM_z).symm
  have r8 := ct_X8_count (g := g) (σ := rfz σ 1) (x := x)
  unfold cntZ7 at r7
  unfold cntZ8 at r8
  rw [if_neg c0, if_neg c1, if_neg c2, if_neg c3, if_neg c4, if_neg c5, if_neg c6, if_neg c7] at r7 r8
  exact OP.rf h (by decide) (by decide) r7 (by decide) r8
