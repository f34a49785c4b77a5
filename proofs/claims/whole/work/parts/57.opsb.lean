/-- both only use scratch cells -/
theorem OP.sc {g : GT} {σ : S_} {M7 M8 : MM} {as : List Value} {d7 d8 : Nat} {x : Int32} {Z7 : Value → S_ → Prop} (hI : IN σ) (a7 : d7 ≤ 68) (h7 : CT g d7 M7 (.ref 0 :: as) σ Z7) (z7 : ∀ r τ, Z7 r τ → r = .int x ∧ ∀ c, ¬ scr c → τ c = σ c) (a8 : d8 ≤ 68) (h8 : ∀ τ : S_, τ 71 = σ 71 → (∀ c, ¬ scr c → τ c = σ c) → ∃ Z8, CT g d8 M8 (.ref 70 :: as) τ Z8 ∧ ∀ r' τ', Z8 r' τ' → r' = .int x ∧ (∀ c, ¬ scr c → c ≠ 70 → τ' c = τ c) ∧ τ' 70 3 = τ 70 3 ∧ τ' 70 17 = τ 70 17) : OP g σ M7 M8 as :=
  ⟨d7, _, a7, h7, fun r τ hz => by
    obtain ⟨e, f⟩ := z7 r τ hz
    obtain ⟨Z8, c8, z8⟩ := h8 τ (f 71 (by unfold scr; omega)) f
    refine ⟨x, d8, Z8, e, a8, c8, fun r' τ' hz' => ?_⟩
    obtain ⟨e', f', f3, f17⟩ := z8 r' τ' hz'
    have h70 : τ 70 = σ 70 := f 70 (by unfold scr; omega)
    refine ⟨e', I2.fr hI (fun c _ h0 h60 hs => (f' c hs (by omega)).trans (f c hs)) ?_ ?_ (fun c hc hs => (f' c hs (by omega)).trans (f c hs)) (by rw [f3, h70]) (by rw [f17, h70])⟩
    · rw [f' 0 (by unfold scr; omega) (by decide), f 0 (by unfold scr; omega)]
    · rw [f' 60 (by unfold scr; omega) (by decide), f 60 (by unfold scr; omega)]⟩
/-- both use scratch cells and refuse -/
theorem OP.rs {g : GT} {σ : S_} {M7 M8 : MM} {as : List Value} {d7 d8 k : Nat} {x : Int32} {Z7 : Value → S_ → Prop} (hI : IN σ) (hk : k < 7) (a7 : d7 ≤ 68) (h7 : CT g d7 M7 (.ref 0 :: as) σ Z7) (z7 : ∀ r τ, Z7 r τ → r = .int x ∧ ∃ τ0, τ = rfz τ0 k ∧ ∀ c, ¬ scr c → τ0 c = σ c) (a8 : d8 ≤ 68) (h8 : ∀ τ : S_, τ 71 = σ 71 → (∀ c, c ≠ 2 → ¬ scr c → τ c = σ c) → ∃ Z8, CT g d8 M8 (.ref 70 :: as) τ Z8 ∧ ∀ r' τ', Z8 r' τ' → r' = .int x ∧ ∃ τ0, τ' = rfm τ0 k ∧ (∀ c, ¬ scr c → c ≠ 70 → τ0 c = τ c) ∧ τ0 70 3 = τ 70 3 ∧ τ0 70 17 = τ 70 17) : OP g σ M7 M8 as :=
  ⟨d7, _, a7, h7, fun r τ hz => by
    obtain ⟨e, τ0, rfl, f⟩ := z7 r τ hz
    have f2 : ∀ c, c ≠ 2 → ¬ scr c → rfz τ0 k c = σ c := fun c h2 hs => (up_row h2).trans (f c hs)
    obtain ⟨Z8, c8, z8⟩ := h8 _ (f2 71 (by decide) (by unfold scr; omega)) f2
    refine ⟨x, d8, Z8, e, a8, c8, fun r' τ' hz' => ?_⟩
    obtain ⟨e', τ1, rfl, f', f3, f17⟩ := z8 r' τ' hz'
    have h70 : rfz τ0 k 70 = σ 70 := f2 70 (by decide) (by unfold scr; omega)
    -- the same without the refusals
    have hR := hI.rf hk
    refine ⟨e', I2.fr hR (fun c c70 h0 h60 hs => ?_) ?_ ?_ (fun c hc hs => ?_) ?_ ?_⟩
    · by_cases q : c = 2
      · subst q
        have e2 : τ1 2 = rfz τ0 k 2 := f' 2 hs (by decide)
        have e0 : τ0 2 = σ 2 := f 2 hs
        show up τ1 74 k _ 2 = up (up σ 2 k _) 74 k _ 2
        rw [up_row (by decide), up_row (by decide), e2]
        show up τ0 2 k (τ0 2 k + 1) 2 = up σ 2 k (σ 2 k + 1) 2
        rw [up_own, up_own, e0]
      · show up τ1 74 k _ c = up (up σ 2 k _) 74 k _ c
        rw [up_row (by omega), up_row (by omega), up_row q, f' c hs (by omega)]
        exact f2 c q hs
    · show up τ1 74 k _ 0 7 = up (up σ 2 k _) 74 k _ 0 7
      rw [up_nc (by decide), up_nc (by decide), up_nc (by decide), f' 0 (by unfold scr; omega) (by decide), f2 0 (by decide) (by unfold scr; omega)]
    · show up τ1 74 k _ 60 1 = up (up σ 2 k _) 74 k _ 60 1
      rw [up_nc (by decide), up_nc (by decide), up_nc (by decide), f' 60 (by unfold scr; omega) (by decide), f2 60 (by decide) (by unfold scr; omega)]
    · by_cases q : c = 74
      · subst q
        have e2 : τ1 74 = σ 74 := (f' 74 hs (by decide)).trans (f2 74 (by decide) hs)
        show up τ1 74 k (τ1 74 k + 1) 74 = up (up σ 2 k _) 74 k (up σ 2 k _ 74 k + 1) 74
        rw [up_own, up_own, up_row (by decide), e2]
      · show up τ1 74 k _ c = up (up σ 2 k _) 74 k _ c
        rw [up_row q, up_row q, up_row (by omega), f' c hs (by omega)]
        exact f2 c (by omega) hs
    · show up τ1 74 k _ 70 3 = up (up σ 2 k _) 74 k _ 70 3
      rw [up_nc (by decide), up_nc (by decide), up_nc (by decide), f3, h70]
    · show up τ1 74 k _ 70 17 = up (up σ 2 k _) 74 k _ 70 17
      rw [up_nc (by decide), up_nc (by decide), up_nc (by decide), f17, h70]⟩
/-- both change the world alike -/
theorem OP.zz {g : GT} {σ : S_} {M7 M8 : MM} {as : List Value} {d7 d8 : Nat} {x : Int32} {t : Nat → Int32} (hI : IN σ) (a7 : d7 ≤ 68) (h7 : CT g d7 M7 (.ref 0 :: as) σ (ZHi σ t x)) (a8 : d8 ≤ 68) (h8 : ∀ τ : S_, τ 71 = σ 71 → CT g d8 M8 (.ref 70 :: as) τ (ZMi τ t x)) (hB : BD t) : OP g σ M7 M8 as :=
  ⟨d7, _, a7, h7, fun r τ hz => by
    obtain ⟨e, hC, hO⟩ := hz
    refine ⟨x, d8, _, e, a8, h8 τ (hO 71 (by omega)), fun r' τ' hz' => ?_⟩
    obtain ⟨e', e71, hM⟩ := hz'
    have h70 : τ' 70 = σ 70 := (hM 70 (by decide) (by decide) (by decide)).trans (hO 70 (by omega))
    refine ⟨e', IN.of (hI.world (τ := τ) (ρ := τ') hC hB (fun c a b s => hO c (by unfold scr at s; omega)) e71 (fun c a s => (hM c (by omega) (by unfold scr at s; omega) (by unfold scr at s; omega)).trans (hO c (by omega))) (by rw [h70]) (by rw [h70])) (fun c hc => hM c (by omega) (by omega) (by omega)) (fun c hc => rfl)⟩⟩
theorem op_farmIs {g : GT} {σ : S_} (h : IN σ) {f x : Int32} : OP g σ M_X7_farmIs M_X8_farmIs [.int f, .int x] := by
  obtain ⟨nf, h7, e7, e8⟩ := h.nf
  obtain ⟨nc, h4, q7, q8⟩ := h.nc
  have hC := h.c
  have hB := h.b
  by_cases c1 : (0 ≤ f ∧ f ≤ nI nf - 1)
  · obtain ⟨n, hn, rfl⟩ := nI_below (b := nf) (by omega) c1
    by_cases c2 : 0 ≤ x ∧ x ≤ 7
    · obtain ⟨k, hk, rfl⟩ := zI_in (b := 7) (by decide) c2
      rcases (show k = 0 ∨ k = 1 ∨ k = 2 ∨ k = 3 ∨ k = 4 ∨ k = 5 ∨ k = 6 ∨ k = 7 by omega) with rfl | rfl | rfl | rfl | rfl | rfl | rfl | rfl
      · exact OP.rd h (by decide) (ct_X7_farmIs_0 hn h7 e7) (by decide) (ct_X8_farmIs_its (k := 0) hn h7 e8 (by decide)) (hC.farm (k := 0) (by omega) (by decide)).symm
      · exact OP.rd h (by decide) (ct_X7_farmIs_1 hn h7 e7) (by decide) (ct_X8_farmIs_its (k := 1) hn h7 e8 (by decide)) (hC.farm (k := 1) (by omega) (by decide)).symm
      · exact OP.rd h (by decide) (ct_X7_farmIs_2 hn h7 e7) (by decide) (ct_X8_farmIs_its (k := 2) hn h7 e8 (by decide)) (hC.farm (k := 2) (by omega) (by decide)).symm
      · exact OP.rd h (by decide) (ct_X7_farmIs_3 hn h7 e7) (by decide) (ct_X8_farmIs_its (k := 3) hn h7 e8 (by decide)) (hC.farm (k := 3) (by omega) (by decide)).symm
      · exact OP.rd h (by decide) (ct_X7_farmIs_4 hn h7 e7) (by decide) (ct_X8_farmIs_its (k := 4) hn h7 e8 (by decide)) (hC.farm (k := 4) (by omega) (by decide)).symm
      · exact OP.rd h (by decide) (ct_X7_farmIs_5 hn h7 e7) (by decide) (ct_X8_farmIs_its (k := 5) hn h7 e8 (by decide)) (hC.farm (k := 5) (by omega) (by decide)).symm
      · have r7 := ct_X7_farmIs_6 (g := g) hn h7 e7 hB.t0 h.c.2.2.1
        rw [hC.farm (k := 0) (by omega) (by decide), hC.farm (k := 3) (by omega) (by decide), hC.farm (k := 4) (by omega) (by decide), hC.farm (k := 1) (by omega) (by decide), show σ 8 6 = σ 71 0 from hC.at LM_hour] at r7
        refine OP.sc (d8 := 4) h (by decide) r7 (fun r τ hz => ⟨hz.1, fun c hs => hz.2 c (by unfold scr at hs; omega)⟩) (by decide) (fun τ e hF => ?_)
        have r8 := ct_X8_farmIs_6 (g := g) (σ := τ) hn h7 (by rw [e]; exact e8) (by rw [e]; exact hB.t0)
        rw [e] at r8
        exact ⟨_, r8, fun r τ' hz => ⟨hz.1, fun c hs _ => hz.2 c (by unfold scr at hs; omega) (by unfold scr at hs; omega), congrFun (hz.2 70 (by decide) (by decide)) 3, congrFun (hz.2 70 (by decide) (by decide)) 17⟩⟩
      · have r7 := ct_X7_farmIs_7 (g := g) hn h7 e7 hB.t1 h.c.2.2.2
        rw [hC.farm (k := 0) (by omega) (by decide), hC.farm (k := 3) (by omega) (by decide), hC.farm (k := 4) (by omega) (by decide), hC.farm (k := 2) (by omega) (by decide)] at r7
        refine OP.sc (d8 := 4) h (by decide) r7 (fun r τ hz => ⟨hz.1, fun c hs => hz.2 c (by unfold scr at hs; omega)⟩) (by decide) (fun τ e hF => ?_)
        have r8 := ct_X8_farmIs_7 (g := g) (σ := τ) hn h7 (by rw [e]; exact e8) (by rw [e]; exact hB.t1)
        rw [e] at r8
        exact ⟨_, r8, fun r τ' hz => ⟨hz.1, fun c hs _ => hz.2 c (by unfold scr at hs; omega) (by unfold scr at hs; omega), congrFun (hz.2 70 (by decide) (by decide)) 3, congrFun (hz.2 70 (by decide) (by decide)) 17⟩⟩
    · exact OP.rf h (by decide) (by decide) (ct_X7_farmIs_far hn h7 e7 (fun k hk q => c2 (by rw [q]; exact inK (b := 7) (by omega) (by decide)))) (by decide) (ct_X8_farmIs_no (σ := rfz σ 1) (fun q => c2 q.2))
  · exact OP.rf h (by decide) (by decide) (ct_X7_farmIs_no (by rw [e7]; exact c1)) (by decide) (ct_X8_farmIs_no (σ := rfz σ 1) (fun q => c1 (by have q1 := q.1; change 0 ≤ f ∧ f ≤ σ 71 5 - 1 at q1; rw [e8] at q1; exact q1)))
theorem us_no {u : Int32} (c : ¬ u = 0) (c1 : ¬ u = 1) : ¬ (0 ≤ u ∧ u ≤ 1) := fun q => by
  obtain ⟨k, hk, rfl⟩ := zI_in (b := 1) (by decide) q
  rcases (show k = 0 ∨ k = 1 by omega) with rfl | rfl
  · exact c rfl
  · exact c1 rfl
theorem op_law {g : GT} {σ : S_} (h : IN σ) {u a b d : Int32} : OP g σ M_X7_law M_X8_law [.int u, .int a, .int b, .int d] := by
  obtain ⟨nf, h7, e7, e8⟩ := h.nf
  obtain ⟨nc, h4, q7, q8⟩ := h.nc
  have hC := h.c
  have hB := h.b
  by_cases c : u = 0
  · subst c
    refine OP.sc (d8 := 3) h (by decide) (ct_X7_law_0 (t := σ 71) hB.t0 hC.2.2.1) (fun r τ hz => ⟨hz.1, fun c hs => hz.2 c (by unfold scr at hs; omega)⟩) (by decide) (fun τ e hF => ?_)
    have r8 := ct_X8_law_0 (g := g) (σ := τ) (a := a) (b := b) (c := d) (by rw [e]; exact hB.t0)
    rw [e] at r8
    exact ⟨_, r8, fun r τ' hz => ⟨hz.1, fun c hs _ => hz.2 c (by unfold scr at hs; omega) (by unfold scr at hs; omega), congrFun (hz.2 70 (by decide) (by decide)) 3, congrFun (hz.2 70 (by decide) (by decide)) 17⟩⟩
  · by_cases c1 : u = 1
    · subst c1
      refine OP.sc (d8 := 3) h (by decide) (ct_X7_law_1 (t := σ 71) hB.t1 hC.2.2.2) (fun r τ hz => ⟨hz.1, fun c hs => hz.2 c (by unfold scr at hs; omega)⟩) (by decide) (fun τ e hF => ?_)
      have r8 := ct_X8_law_1 (g := g) (σ := τ) (a := a) (b := b) (c := d) (by rw [e]; exact hB.t1)
      rw [e] at r8
      exact ⟨_, r8, fun r τ' hz => ⟨hz.1, fun c hs _ => hz.2 c (by unfold scr at hs; omega) (by unfold scr at hs; omega), congrFun (hz.2 70 (by decide) (by decide)) 3, congrFun (hz.2 70 (by decide) (by decide)) 17⟩⟩
    · exact OP.rf h (by decide) (by decide) (ct_X7_law_no (fun q => q.elim c c1)) (by decide) (ct_X8_law_no (σ := rfz σ 1) (us_no c c1))
theorem BD.untold {t : Nat → Int32} (h : BD t) {u : Nat} (hu : u < 2) : BD (upd t (60 + 125 * u) 0) := by
  have hs : ∀ j, j ≠ 60 + 125 * u → upd t (60 + 125 * u) 0 j = t j := fun j hj => upd_ne hj
  have hz : TOK (upd t (60 + 125 * u) 0) u := ⟨0, by decide, upd_at, fun q => absurd q (by decide), fun j hj => absurd hj (by omega)⟩
  have h0 : TOK (upd t (60 + 125 * u) 0) 0 := by
    by_cases q : u = 0
    · rw [q] at hz ⊢
      exact hz
    · exact h.t0.row (fun k k1 k2 => (hs k (by omega)).symm)
  have h1 : TOK (upd t (60 + 125 * u) 0) 1 := by
    by_cases q : u = 1
    · rw [q] at hz ⊢
      exact hz
    · exact h.t1.row (fun k k1 k2 => (hs k (by omega)).symm)
  obtain ⟨b1, b2, b3, b4, b6, b7, b8, b9, b10, b11⟩ := h
  unfold FB at b9
  have hl : ∀ j, j < 60 → upd t (60 + 125 * u) 0 j = t j := fun j hj => hs j (by omega)
  refine ⟨by rw [hl 5 (by omega)]; exact b1, by rw [hl 6 (by omega)]; exact b2, by rw [hl 3 (by omega)]; exact b3, by rw [hl 4 (by omega)]; exact b4, by rw [hl 1 (by omega)]; exact b6, fun p hp => by rw [hl _ (by omega)]; exact b7 p hp, fun c hc => by rw [hl _ (by omega), hl _ (by omega)]; exact b8 c hc, fun n hn => ?_, h0, h1⟩
  unfold FB
  rw [hl _ (by omega), hl _ (by omega), hl _ (by omega), hl _ (by omega), hl _ (by omega), hl _ (by omega)]
  exact b9 n hn
theorem CW_untold {σ : S_} {t : Nat → Int32} (h : CW σ 8 t) {u : Nat} (hu : u < 2) : CW (up σ (23 + 4 * u) 3 0) 8 (upd t (60 + 125 * u) 0) := by
  have hz : TXR (up σ (23 + 4 * u) 3 0) (upd t (60 + 125 * u) 0) (23 + 4 * u) u := ⟨by rw [up_at, upd_at], fun L hL h6 j hj => by
    rw [upd_at] at hL
    have := b8_inj (n := 0) (k := L) (by decide) (by omega) hL
    omega⟩
  refine ⟨fun x hx => ?_, fun i hi => ?_, ?_, ?_⟩
  · have hA := LM_away x hx
    rw [up_nc (by omega), upd_ne (by omega)]
    exact h.1 x hx
  · rw [up_nc (by omega), upd_ne (by omega)]
    exact h.2.1 i hi
  · by_cases q : u = 0
    · subst q; exact hz
    · exact (h.2.2.1.cells (up_row (by omega)) (up_row (by omega)) (up_row (by omega))).row (fun k k1 k2 => (upd_ne (by omega)).symm)
  · by_cases q : u = 1
    · subst q; exact hz
    · exact (h.2.2.2.cells (up_row (by omega)) (up_row (by omega)) (up_row (by omega))).row (fun k k1 k2 => (upd_ne (by omega)).symm)
theorem IN.untold {σ : S_} (h : IN σ) {u : Nat} (hu : u < 2) : IN (up (up σ (23 + 4 * u) 3 0) 71 (60 + 125 * u) 0) := by
  have hw := IN.world (τ := up σ (23 + 4 * u) 3 0) (ρ := up σ 71 (60 + 125 * u) 0) h (CW_untold h.c hu) (h.b.untold hu) (fun c a b _ => up_row (by omega)) up_own (fun c a _ => up_row (by omega)) (up_nc (by decide)) (up_nc (by decide))
  exact IN.of hw (fun c hc => up_row (by omega)) (fun c hc => up_same (up_row (by omega)))
theorem op_untell {g : GT} {σ : S_} (h : IN σ) {u : Int32} : OP g σ M_X7_untell M_X8_untell [.int u] := by
  obtain ⟨nf, h7, e7, e8⟩ := h.nf
  obtain ⟨nc, h4, q7, q8⟩ := h.nc
  have hC := h.c
  have hB := h.b
  by_cases c : u = 0
  · subst c
    refine OP.eq (by decide) ct_X7_untell_0 (by decide) (ct_X8_untell_ok (σ := up σ 23 3 0) (u := 0) (by decide)) ?_ (h.untold (u := 0) (by decide))
    show bI (0 < σ 71 60) = bI (0 < σ 23 3)
    rw [show σ 23 3 = σ 71 60 from hC.2.2.1.1]
  · by_cases c1 : u = 1
    · subst c1
      refine OP.eq (by decide) ct_X7_untell_1 (by decide) (ct_X8_untell_ok (σ := up σ 27 3 0) (u := 1) (by decide)) ?_ (h.untold (u := 1) (by decide))
      show bI (0 < σ 71 185) = bI (0 < σ 27 3)
      rw [show σ 27 3 = σ 71 185 from hC.2.2.2.1]
    · exact OP.rf h (by decide) (by decide) (ct_X7_untell_no (fun q => q.elim c c1)) (by decide) (ct_X8_untell_no (σ := rfz σ 1) (us_no c c1))
theorem op_hours {g : GT} {σ : S_} (h : IN σ) {n : Int32} : OP g σ M_X7_hours M_X8_hours [.int n] := by
  obtain ⟨nf, h7, e7, e8⟩ := h.nf
  obtain ⟨nc, h4, q7, q8⟩ := h.nc
  have hC := h.c
  have hB := h.b
  by_cases c : 1 ≤ n ∧ n ≤ 72
  · have eh : σ 8 6 = σ 71 0 := hC.at LM_hour
    by_cases f : σ 71 0 + n ≤ 9999
    · obtain ⟨n, n1, n2, rfl⟩ := nI_betw (a := 1) (b := 72) (by decide) (by decide) c
      refine OP.zz h (by decide) (ct_X7_hours_ok n1 n2 hB e8 h7 hC f) (by decide) (d8 := 5) (fun τ e => ?_) (BD_hoursN hB h7 n)
      have r8 := ct_X8_hours_ok (g := g) (σ := τ) n1 n2 (by rw [e]; exact hB) (by rw [e]; exact e8) h7 (by rw [e]; exact f)
      rw [e] at r8
      exact r8
    · exact OP.rf h (by decide) (by decide) (ct_X7_hours_late c (by rw [eh]; exact f)) (by decide) (ct_X8_hours_late (σ := rfz σ 3) c f)
  · exact OP.rf h (by decide) (by decide) (ct_X7_hours_no c) (by decide) (ct_X8_hours_no (σ := rfz σ 1) c)
theorem op_loose {g : GT} {σ : S_} (h : IN σ) {n : Int32} : OP g σ M_X7_loose M_X8_loose [.int n] := by
  obtain ⟨nf, h7, e7, e8⟩ := h.nf
  obtain ⟨nc, h4, q7, q8⟩ := h.nc
  have hC := h.c
  have hB := h.b
  by_cases c : 1 ≤ n ∧ n ≤ 24
  · have eh : σ 8 6 = σ 71 0 := hC.at LM_hour
    by_cases f : σ 71 0 + n ≤ 9999
    · obtain ⟨n, n1, n2, rfl⟩ := nI_betw (a := 1) (b := 24) (by decide) (by decide) c
      refine OP.zz h (by decide) (ct_X7_loose_ok n1 n2 hB e8 h7 q8 h4 hC f) (by decide) (d8 := 6) (fun τ e => ?_) (BD_looN hB h4 h7 n)
      have r8 := ct_X8_loose_ok (g := g) (σ := τ) (t := σ 71) e n1 n2 hB e8 h7 q8 h4 (by rw [e]; exact f)
      
      exact r8
    · exact OP.rf h (by decide) (by decide) (ct_X7_loose_late c (by rw [eh]; exact f)) (by decide) (ct_X8_loose_late (σ := rfz σ 3) c f)
  · exact OP.rf h (by decide) (by decide) (ct_X7_loose_no c) (by decide) (ct_X8_loose_no (σ := rfz σ 1) c)
theorem op_carry {g : GT} {σ : S_} (h : IN σ) {k s p : Int32} : OP g σ M_X7_carry M_X8_carry [.int k, .int s, .int p] := by
  obtain ⟨nf, h7, e7, e8⟩ := h.nf
  obtain ⟨nc, h4, q7, q8⟩ := h.nc
  have hC := h.c
  have hB := h.b
  by_cases c : (0 ≤ k ∧ k ≤ nI nc - 1) ∧ (1 ≤ s ∧ s ≤ (1 <<< (nI nf &&& 31)) - 1) ∧ (0 ≤ p ∧ p ≤ 2)
  · obtain ⟨c1, c2, c3⟩ := c
    obtain ⟨k, hk, rfl⟩ := nI_below (b := nc) (by omega) c1
    obtain ⟨p, hp0, rfl⟩ := zI_in (b := 2) (by decide) c3
    have hp : p < 3 := by omega
    have ps : 1 ≤ s ∧ s ≤ (1 <<< (σ 71 5 &&& 31)) - 1 := by rw [e8]; exact c2
    by_cases m : dryS (σ 71) s nf ≤ σ 71 (52 + 2 * k) ∧ dryS (σ 71) s nf ≤ σ 71 (7 + p)
    · refine OP.zz h (by decide) (ct_X7_carry_ok hB e8 h7 q8 h4 hk hp ps hC m) (by decide) (d8 := 5) (fun τ e => ?_) (BD_carT hB (by omega) hp h7 m.2)
      have r8 := ct_X8_carry_ok (g := g) (σ := τ) (nf := nf) (nc := nc) (c := k) (p := p) (set := s) (by rw [e]; exact hB) (by rw [e]; exact e8) h7 (by rw [e]; exact q8) h4 hk hp (by rw [e]; exact ps) (by rw [e]; exact m)
      rw [e] at r8
      exact r8
    · exact OP.rf h (by decide) (by decide) (ct_X7_carry_st hB e8 h7 q8 h4 hk hp ps hC m) (by decide) (ct_X8_carry_st (σ := rfz σ 3) hB e8 h7 q8 h4 hk hp ps m)
  · exact OP.rf h (by decide) (by decide) (ct_X7_carry_no (by rw [e7, q7]; exact c)) (by decide) (ct_X8_carry_no (σ := rfz σ 1) (by show ¬ ((0 ≤ k ∧ k ≤ σ 71 6 - 1) ∧ (1 ≤ s ∧ s ≤ (1 <<< (σ 71 5 &&& 31)) - 1) ∧ (0 ≤ p ∧ p ≤ 2)); rw [e8, q8]; exact c))
theorem op_then {g : GT} {σ : S_} (h : IN σ) {f n : Int32} : OP g σ M_X7_then M_X8_then [.int f, .int n] := by
  obtain ⟨nf, h7, e7, e8⟩ := h.nf
  obtain ⟨nc, h4, q7, q8⟩ := h.nc
  have hC := h.c
  have hB := h.b
  by_cases c : (0 ≤ f ∧ f ≤ nI nf - 1) ∧ (0 ≤ n ∧ n ≤ 72)
  · obtain ⟨c1, c2⟩ := c
    obtain ⟨f, hf, rfl⟩ := nI_below (b := nf) (by omega) c1
    obtain ⟨n, hn, rfl⟩ := zI_in (b := 72) (by decide) c2
    exact OP.sc (d8 := 5) h (by decide) (ct_X7_then_ok hB e8 h7 hC hf hn) (fun r τ hz => ⟨hz.1, fun c hs => hz.2 c (by unfold scr at hs; omega) (by unfold scr at hs; omega)⟩) (by decide) (fun τ e hF => ⟨_, ct_X8_then_ok (σ := τ) hB e8 h7 e hf hn, fun r τ' hz => ⟨hz.1, fun c hs _ => hz.2 c (by unfold scr at hs; omega) (by unfold scr at hs; omega) (by unfold scr at hs; omega), congrFun (hz.2 70 (by decide) (by decide) (by decide)) 3, congrFun (hz.2 70 (by decide) (by decide) (by decide)) 17⟩⟩)
  · exact OP.rf h (by decide) (by decide) (ct_X7_then_no (by rw [e7]; exact c)) (by decide) (ct_X8_then_no (σ := rfz σ 1) (by show ¬ ((0 ≤ f ∧ f ≤ σ 71 5 - 1) ∧ (0 ≤ n ∧ n ≤ 72)); rw [e8]; exact c))
theorem op_first {g : GT} {σ : S_} (h : IN σ) {x y : Int32} : OP g σ M_X7_first M_X8_first [.int x, .int y] := by
  obtain ⟨nf, h7, e7, e8⟩ := h.nf
  obtain ⟨nc, h4, q7, q8⟩ := h.nc
  have hC := h.c
  have hB := h.b
  by_cases c : (0 ≤ x ∧ x ≤ 99) ∧ (0 ≤ y ∧ y ≤ 1)
  · obtain ⟨c1, c2⟩ := c
    obtain ⟨y, hy1, rfl⟩ := zI_in (b := 1) (by decide) c2
    have hy : y < 2 := by omega
    have hle := (srch_le (P := drierB (σ 71) nf x) 73 0).2
    by_cases f : srch (drierB (σ 71) nf x) 73 0 = 73
    · refine OP.rs (k := 2) (d8 := 5) h (by decide) (by decide) (ct_X7_first_none hB e8 h7 hC c1 hy f) (fun r τ hz => ⟨hz.1, by obtain ⟨τ0, e0, f0⟩ := hz.2; exact ⟨τ0, e0, fun c hs => f0 c (by unfold scr at hs; omega) (by unfold scr at hs; omega)⟩⟩) (by decide) (fun τ e hF => ⟨_, ct_X8_first_ok (σ := τ) hB e8 h7 e c1 hy, fun r τ' hz => ?_⟩)
      rcases hz with ⟨a1, a2, τ0, e0, f0⟩ | ⟨a1, _⟩
      · exact ⟨a2, τ0, e0, fun c hs _ => f0 c (by unfold scr at hs; omega) (by unfold scr at hs; omega) (by unfold scr at hs; omega), congrFun (f0 70 (by decide) (by decide) (by decide)) 3, congrFun (f0 70 (by decide) (by decide) (by decide)) 17⟩
      · omega
    · refine OP.sc (d8 := 5) h (by decide) (ct_X7_first_ok hB e8 h7 hC c1 hy (by omega)) (fun r τ hz => ⟨hz.1, fun c hs => hz.2 c (by unfold scr at hs; omega) (by unfold scr at hs; omega)⟩) (by decide) (fun τ e hF => ⟨_, ct_X8_first_ok (σ := τ) hB e8 h7 e c1 hy, fun r τ' hz => ?_⟩)
      rcases hz with ⟨a1, _⟩ | ⟨a1, a2, f0⟩
      · omega
      · exact ⟨a2, fun c hs _ => f0 c (by unfold scr at hs; omega) (by unfold scr at hs; omega) (by unfold scr at hs; omega), congrFun (f0 70 (by decide) (by decide) (by decide)) 3, congrFun (f0 70 (by decide) (by decide) (by decide)) 17⟩
  · exact OP.rf h (by decide) (by decide) (ct_X7_first_no c) (by decide) (ct_X8_first_no (σ := rfz σ 1) c)
theorem op_round {g : GT} {σ : S_} (h : IN σ) {k y : Int32} : OP g σ M_X7_round M_X8_round [.int k, .int y] := by
  obtain ⟨nf, h7, e7, e8⟩ := h.nf
  obtain ⟨nc, h4, q7, q8⟩ := h.nc
  have hC := h.c
  have hB := h.b
  by_cases c : (0 ≤ k ∧ k ≤ nI nc - 1) ∧ (0 ≤ y ∧ y ≤ 1)
  · obtain ⟨c1, c2⟩ := c
    obtain ⟨k, hk, rfl⟩ := nI_below (b := nc) (by omega) c1
    obtain ⟨y, hy1, rfl⟩ := zI_in (b := 1) (by decide) c2
    have hy : y < 2 := by omega
    refine OP.sc (d8 := 4) h (by decide) (ct_X7_round_ok hB e8 h7 hC q8 h4 hk hy) (fun r τ hz => ⟨hz.1, fun c hs => hz.2 c (by unfold scr at hs; omega)⟩) (by decide) (fun τ e hF => ?_)
    have r8 := ct_X8_round_ok (g := g) (σ := τ) (c := k) (y := y) (by rw [e]; exact e8) h7 (by rw [e]; exact hB.t1) (by rw [e]; exact q8) h4 hk hy
    rw [e] at r8
    exact ⟨_, r8, fun r τ' hz => ⟨hz.1, fun c hs _ => hz.2 c (by unfold scr at hs; omega) (by unfold scr at hs; omega) (by unfold scr at hs; omega), congrFun (hz.2 70 (by decide) (by decide) (by decide)) 3, congrFun (hz.2 70 (by decide) (by decide) (by decide)) 17⟩⟩
  · exact OP.rf h (by decide) (by decide) (ct_X7_round_no (by rw [q7]; exact c)) (by decide) (ct_X8_round_no (σ := rfz σ 1) (by show ¬ ((0 ≤ k ∧ k ≤ σ 71 6 - 1) ∧ (0 ≤ y ∧ y ≤ 1)); rw [q8]; exact c))
theorem op_odds {g : GT} {σ : S_} (h : IN σ) {k y : Int32} : OP g σ M_X7_odds M_X8_odds [.int k, .int y] := by
  obtain ⟨nf, h7, e7, e8⟩ := h.nf
  obtain ⟨nc, h4, q7, q8⟩ := h.nc
  have hC := h.c
  have hB := h.b
  by_cases c : (0 ≤ k ∧ k ≤ nI nc - 1) ∧ (0 ≤ y ∧ y ≤ 1)
  · obtain ⟨c1, c2⟩ := c
    obtain ⟨k, hk, rfl⟩ := nI_below (b := nc) (by omega) c1
    obtain ⟨y, hy1, rfl⟩ := zI_in (b := 1) (by decide) c2
    have hy : y < 2 := by omega
    by_cases f : nf = 0
    · exact OP.rf h (by decide) (by decide) (ct_X7_odds_st hB e8 h7 hC q8 h4 hk hy f) (by decide) (ct_X8_odds_st (σ := rfz σ 3) e8 h7 q8 h4 hk hy f)
    · exact OP.rd h (by decide) (ct_X7_odds_ok hB e8 h7 hC q8 h4 hk hy (by omega)) (by decide) (ct_X8_odds_ok e8 h7 q8 h4 hk hy (by omega)) rfl
  · exact OP.rf h (by decide) (by decide) (ct_X7_odds_no (by rw [q7]; exact c)) (by decide) (ct_X8_odds_no (σ := rfz σ 1) (by show ¬ ((0 ≤ k ∧ k ≤ σ 71 6 - 1) ∧ (0 ≤ y ∧ y ≤ 1)); rw [q8]; exact c))
theorem op_whose {g : GT} {σ : S_} (h : IN σ) {v y : Int32} : OP g σ M_X7_whose M_X8_whose [.int v, .int y] := by
  obtain ⟨nf, h7, e7, e8⟩ := h.nf
  obtain ⟨nc, h4, q7, q8⟩ := h.nc
  have hC := h.c
  have hB := h.b
  by_cases c : (¬ v < 0) ∧ (0 ≤ y ∧ y ≤ 1)
  · obtain ⟨c1, c2⟩ := c
    obtain ⟨y, hy1, rfl⟩ := zI_in (b := 1) (by decide) c2
    have hy : y < 2 := by omega
    by_cases f : y = 0
    · exact OP.rd h (by decide) (ct_X7_whose_0 hB e8 h7 hC c1 f) (by decide) (ct_X8_whose_0 e8 h7 c1 f) rfl
    · have f1 : y = 1 := by omega
      have r7 := ct_X7_whose_1 (g := g) hB e8 h7 hC c1 f1
      by_cases q : fstQ (fun n => decide (dryS (σ 71) (nI n) nf = v)) (2 ^ nf - 1) 1 = 0
      · have r8 := ct_X8_whose_1 (g := g) (σ := rfz σ 2) e8 h7 c1 f1
        rw [show rfz σ 2 71 = σ 71 from up_row (by decide)] at r8
        rw [if_pos q] at r7 r8
        exact OP.rf h (by decide) (by decide) r7 (by decide) r8
      · have r8 := ct_X8_whose_1 (g := g) (σ := σ) e8 h7 c1 f1
        rw [if_neg q] at r7 r8
        exact OP.rd h (by decide) r7 (by decide) r8 rfl
  · exact OP.rf h (by decide) (by decide) (ct_X7_whose_no c) (by decide) (ct_X8_whose_no (σ := rfz σ 1) c)
theorem ge0_of {v : Int32} (h : -1 ≤ v) (h1 : ¬ v = -1) : 0 ≤ v := by
  have a := Int32.le_iff_toInt_le.mp h
  have b : v.toInt ≠ (-1 : Int32).toInt := fun q => h1 (Int32.toInt_inj.mp q)
  rw [show (-1 : Int32).toInt = -1 from rfl] at a b
  apply Int32.le_iff_toInt_le.mpr
  show (0 : Int32).toInt ≤ _
  rw [show (0 : Int32).toInt = 0 from rfl]
  omega
theorem op_fewest {g : GT} {σ : S_} (h : IN σ) {m f : Int32} : OP g σ M_X7_fewest M_X8_fewest [.int m, .int f] := by
  obtain ⟨nf, h7, e7, e8⟩ := h.nf
  obtain ⟨nc, h4, q7, q8⟩ := h.nc
  have hC := h.c
  have hB := h.b
  by_cases c : (0 ≤ m ∧ m ≤ 99) ∧ (-1 ≤ f ∧ f ≤ 6)
  · obtain ⟨c1, c2⟩ := c
    obtain ⟨m, hm, rfl⟩ := zI_in (b := 99) (by decide) c1
    obtain ⟨D, B, hN⟩ := hB.nb h7 h4
    have h5 := few_le (nf := nf) (nc := nc) (m := m) (D := D) (B := B)
    have hS : ∀ τ : S_, τ 71 = σ 71 → τ 71 5 = nI nf ∧ τ 71 6 = nI nc ∧ NB (τ 71) nf nc D B := fun τ e => by rw [e]; exact ⟨e8, q8, hN⟩
    by_cases q : (fewP nf nc m D B).1 = 5
    · refine OP.rs (k := 2) (d8 := 10) h (by decide) (by decide) (ct_X7_fewest_none e8 h7 q8 h4 hm hN hC c2 q) (fun r τ hz => ⟨hz.1, by obtain ⟨τ0, e0, f0⟩ := hz.2; exact ⟨τ0, e0, fun c hs => f0 c (by unfold scr at hs; omega)⟩⟩) (by decide) (fun τ e hF => ⟨_, ct_X8_fewest_none (σ := τ) h7 h4 hm (hS τ e) c2 q, fun r τ' hz => ?_⟩)
      obtain ⟨a2, τ0, e0, f0⟩ := hz
      exact ⟨a2, τ0, e0, fun c hs c70 => f0.1 c c70 (by unfold scr at hs; omega) (by unfold scr at hs; omega) (by unfold scr at hs; omega), f0.2 3 (by decide), f0.2 17 (by decide)⟩
    · by_cases f1 : f = -1
      · subst f1
        refine OP.sc (d8 := 10) h (by decide) (ct_X7_fewest_neg e8 h7 q8 h4 hm hN hC (by omega)) (fun r τ hz => ⟨hz.1, fun c hs => hz.2 c (by unfold scr at hs; omega)⟩) (by decide) (fun τ e hF => ⟨_, ct_X8_fewest_neg (σ := τ) h7 h4 hm (hS τ e) (by omega), fun r τ' hz => ?_⟩)
        obtain ⟨a2, f0⟩ := hz
        exact ⟨a2, fun c hs c70 => f0.1 c c70 (by unfold scr at hs; omega) (by unfold scr at hs; omega) (by unfold scr at hs; omega), f0.2 3 (by decide), f0.2 17 (by decide)⟩
      · obtain ⟨f, hf0, rfl⟩ := zI_in (b := 6) (by decide) (show 0 ≤ f ∧ f ≤ nI 6 from ⟨ge0_of c2.1 f1, c2.2⟩)
        have hf : f < 7 := by omega
        refine OP.sc (d8 := 10) h (by decide) (ct_X7_fewest_at e8 h7 q8 h4 hm hN hC hf (by omega)) (fun r τ hz => ⟨hz.1, fun c hs => hz.2 c (by unfold scr at hs; omega)⟩) (by decide) (fun τ e hF => ⟨_, ct_X8_fewest_at (σ := τ) h7 h4 hm (hS τ e) hf (by omega), fun r τ' hz => ?_⟩)
        obtain ⟨a2, f0⟩ := hz
        exact ⟨a2, fun c hs c70 => f0.1 c c70 (by unfold scr at hs; omega) (by unfold scr at hs; omega) (by unfold scr at hs; omega), f0.2 3 (by decide), f0.2 17 (by decide)⟩
  · exact OP.rf h (by decide) (by decide) (ct_X7_fewest_no c) (by decide) (ct_X8_fewest_no (σ := rfz σ 1) c)
theorem op_feed {g : GT} {σ : S_} (h : IN σ) {w : Int64} {n : Int32} : OP g σ M_X7_feed M_X8_feed [.long w, .int n] := by
  obtain ⟨nt, h6, t7, t8⟩ := h.nt
  have hC := h.c
  have hB := h.b
  by_cases c : 1 ≤ n ∧ n ≤ 8
  · obtain ⟨n, n1, n8, rfl⟩ := nI_betw (a := 1) (b := 8) (by decide) (by decide) c
    by_cases f : 60 < nt + n
    · exact OP.rf h (by decide) (by decide) (ct_X7_feed_full n1 n8 t7 h6 f) (by decide) (ct_X8_feed_full (σ := rfz σ 4) n1 n8 t8 h6 f)
    · refine OP.mk (by decide) (ct_X7_feed_ok n1 n8 t7 (by omega)) (fun r τ hz => ?_)
      obtain ⟨a1, a2, a3, a4, a5⟩ := hz
      have e71 : τ 71 = σ 71 := a5 71 (by decide) (by decide)
      refine ⟨_, 2, _, a1, by decide, ct_X8_feed_ok (σ := τ) n1 n8 (by rw [e71]; exact t8) (by omega), fun r' τ' hz' => ?_⟩
      obtain ⟨b1, b2, b3⟩ := hz'
      rw [e71] at b2
      have h70 : τ' 70 = σ 70 := (b3 70 (by decide)).trans (a5 70 (by decide) (by decide))
      exact ⟨b1, IN.of (h.world (τ := τ) (ρ := τ') (CW_feed n1 n8 (by omega) hC t8 a2 a3 a4 a5) (BD_feed hB t8 (by omega)) (fun c a b s => a5 c (by omega) (by omega)) b2 (fun c a s => (b3 c (by omega)).trans (a5 c (by omega) (by omega))) (by rw [h70]) (by rw [h70])) (fun c hc => b3 c (by omega)) (fun c hc => rfl)⟩
  · exact OP.rf h (by decide) (by decide) (ct_X7_feed_no c) (by decide) (ct_X8_feed_no (σ := rfz σ 1) c)
