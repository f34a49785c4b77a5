theorem fitB_rows {t : Nat → Int32} {nf sz : Nat} {f f' : Nat → Int32} (h : ∀ j, j < 24 → f j = f' j) (h24 : sz ≤ 24) : fitB t nf f sz = fitB t nf f' sz := by
  funext k
  unfold fitB
  rw [told_ext sz 0 (fun j _ hj => ⟨rfl, h j (by omega)⟩)]
theorem op_fits {g : GT} {σ : S_} (h : IN σ) {s : Int32} : OP g σ M_X7_fits M_X8_fits [.int s] := by
  obtain ⟨nf, h7, e7, e8⟩ := h.nf
  obtain ⟨nc, h4, q7, q8⟩ := h.nc
  have hC := h.c
  have hB := h.b
  by_cases c : 0 ≤ s ∧ s ≤ 3
  · obtain ⟨s, hs0, rfl⟩ := zI_in (b := 3) (by decide) c
    have hs : s < 4 := by omega
    obtain ⟨s1, s2, ⟨sz, h24, z1, z2⟩, s3⟩ := h.2.2.2.2.2 s hs
    by_cases g0 : σ 83 s = 0
    · exact OP.rf h (by decide) (by decide) (ct_X7_fits_gone hs (s1.trans g0)) (by decide) (ct_X8_fits_gone (σ := rfz σ 2) hs g0)
    · have hle := (srch_le (P := fitB (σ 71) nf (σ (63 + 2 * s)) sz) 73 0).2
      have r7 := ct_X7_fits_ok (g := g) hB e8 h7 hC hs z1 h24 (fun q => g0 (s1.symm.trans q))
      have k8 : ∀ τ : S_, τ 71 = σ 71 → τ 83 = σ 83 → τ 84 = σ 84 → τ 85 = σ 85 → ∃ Z8, CT g 5 M_X8_fits [.ref 70, .int (nI s)] τ Z8 ∧ ∀ r' τ', Z8 r' τ' → (((srch (fitB (σ 71) nf (σ (63 + 2 * s)) sz) 73 0) = 73 ∧ r' = .int (-1000000002) ∧ ∃ τ0, τ' = rfm τ0 2 ∧ ∀ x, x ≠ 73 → x ≠ 76 → x ≠ 77 → τ0 x = τ x) ∨ ((srch (fitB (σ 71) nf (σ (63 + 2 * s)) sz) 73 0) < 73 ∧ r' = .int (nI (srch (fitB (σ 71) nf (σ (63 + 2 * s)) sz) 73 0)) ∧ ∀ x, x ≠ 73 → x ≠ 76 → x ≠ 77 → τ' x = τ x)) := fun τ a1 a2 a3 a4 => by
        have r8 := ct_X8_fits_ok (g := g) (σ := τ) hB e8 h7 a1 hs (by rw [a3]; exact z2) h24 (by rw [a2]; exact g0)
        rw [show fitB (σ 71) nf (fun j => τ 85 (24 * s + j)) sz = fitB (σ 71) nf (σ (63 + 2 * s)) sz from fitB_rows (fun j hj => by rw [a4]; exact (s3 j hj).symm) h24] at r8
        exact ⟨_, r8, fun r' τ' hz => hz⟩
      by_cases f : (srch (fitB (σ 71) nf (σ (63 + 2 * s)) sz) 73 0) = 73
      · refine OP.rs (k := 2) (x := -1000000002) (d8 := 5) h (by decide) (by decide) r7 (fun r τ hz => ?_) (by decide) (fun τ e hF => ?_)
        · rcases hz with ⟨a1, a2, τ0, e0, f0⟩ | ⟨a1, _⟩
          · exact ⟨a2, τ0, e0, fun c hs => f0 c (by unfold scr at hs; omega) (by unfold scr at hs; omega)⟩
          · omega
        · obtain ⟨Z8, b1, b2⟩ := k8 τ e (hF 83 (by decide) (by unfold scr; omega)) (hF 84 (by decide) (by unfold scr; omega)) (hF 85 (by decide) (by unfold scr; omega))
          refine ⟨Z8, b1, fun r τ' hz => ?_⟩
          rcases b2 r τ' hz with ⟨a1, a2, τ0, e0, f0⟩ | ⟨a1, _⟩
          · exact ⟨a2, τ0, e0, fun c hs _ => f0 c (by unfold scr at hs; omega) (by unfold scr at hs; omega) (by unfold scr at hs; omega), congrFun (f0 70 (by decide) (by decide) (by decide)) 3, congrFun (f0 70 (by decide) (by decide) (by decide)) 17⟩
          · omega
      · refine OP.sc (x := nI (srch (fitB (σ 71) nf (σ (63 + 2 * s)) sz) 73 0)) (d8 := 5) h (by decide) r7 (fun r τ hz => ?_) (by decide) (fun τ e hF => ?_)
        · rcases hz with ⟨a1, _⟩ | ⟨a1, a2, f0⟩
          · omega
          · exact ⟨a2, fun c hs => f0 c (by unfold scr at hs; omega) (by unfold scr at hs; omega)⟩
        · obtain ⟨Z8, b1, b2⟩ := k8 τ e (hF 83 (by unfold scr; omega)) (hF 84 (by unfold scr; omega)) (hF 85 (by unfold scr; omega))
          refine ⟨Z8, b1, fun r τ' hz => ?_⟩
          rcases b2 r τ' hz with ⟨a1, _⟩ | ⟨a1, a2, f0⟩
          · omega
          · exact ⟨a2, fun c hs _ => f0 c (by unfold scr at hs; omega) (by unfold scr at hs; omega) (by unfold scr at hs; omega), congrFun (f0 70 (by decide) (by decide) (by decide)) 3, congrFun (f0 70 (by decide) (by decide) (by decide)) 17⟩
  · exact OP.rf h (by decide) (by decide) (ct_X7_fits_no c) (by decide) (ct_X8_fits_no (σ := rfz σ 1) c)
theorem op_judge {g : GT} {σ : S_} (h : IN σ) {s : Int32} : OP g σ M_X7_judge M_X8_judge [.int s] := by
  obtain ⟨nf, h7, e7, e8⟩ := h.nf
  obtain ⟨nc, h4, q7, q8⟩ := h.nc
  have hC := h.c
  have hB := h.b
  by_cases c : 0 ≤ s ∧ s ≤ 3
  · obtain ⟨s, hs0, rfl⟩ := zI_in (b := 3) (by decide) c
    have hs : s < 4 := by omega
    obtain ⟨s1, s2, ⟨sz, h24, z1, z2⟩, s3⟩ := h.2.2.2.2.2 s hs
    by_cases g0 : σ 83 s = 0
    · exact OP.rf h (by decide) (by decide) (ct_X7_judge_gone hs (s1.trans g0)) (by decide) (ct_X8_judge_gone (σ := rfz σ 2) hs g0)
    · have r7 := ct_X7_judge_ok (g := g) hs h24 h7 e8 hB.t1 hC (fun q => g0 (s1.symm.trans q)) z1
      refine OP.sc (d8 := 4) h (by decide) r7 (fun r τ hz => ⟨hz.1, fun c hs => hz.2 c (by unfold scr at hs; omega)⟩) (by decide) (fun τ e hF => ?_)
      have a2 : τ 83 = σ 83 := hF 83 (by unfold scr; omega)
      have a3 : τ 84 = σ 84 := hF 84 (by unfold scr; omega)
      have a4 : τ 85 = σ 85 := hF 85 (by unfold scr; omega)
      have r8 := ct_X8_judge_ok (g := g) (σ := τ) (nf := nf) hs h24 h7 (by rw [e]; exact e8) (by rw [e]; exact hB.t1) (by rw [a2]; exact g0) (by rw [a3]; exact z2)
      rw [jdN_ext (f := fun j => τ 85 (24 * s + j)) (f' := σ (63 + 2 * s)) (p := payOfT (τ 71)) (p' := payOfT (σ 71)) (min sz nf) 0 (fun j _ hj => ⟨by show τ 85 (24 * s + j) = _; rw [a4]; exact (s3 j (by omega)).symm, by rw [e]⟩)] at r8
      exact ⟨_, r8, fun r τ' hz => ⟨hz.1, fun c hs _ => hz.2 c (by unfold scr at hs; omega) (by unfold scr at hs; omega), congrFun (hz.2 70 (by decide) (by decide)) 3, congrFun (hz.2 70 (by decide) (by decide)) 17⟩⟩
  · exact OP.rf h (by decide) (by decide) (ct_X7_judge_no c) (by decide) (ct_X8_judge_no (σ := rfz σ 1) c)
theorem prT_ext {t f f' : Nat → Int32} : ∀ n, (∀ j, j < n → f j = f' j) → prT t f n = prT t f' n := by
  intro n
  induction n with
  | zero => intro _; rfl
  | succ n ih => intro h; show upd (prT t f n) _ (f n) = upd (prT t f' n) _ (f' n); rw [ih (fun j hj => h j (by omega)), h n (by omega)]
theorem prN_bw {f : Nat → Int32} : ∀ k i j, i ≤ j → j < prN f k i → bw (f j) 99 := by
  intro k
  induction k with
  | zero => intro i j a b; exact absurd (show j < i from b) (by omega)
  | succ k ih =>
    intro i j a b
    unfold prN at b
    by_cases c : 0 ≤ f i ∧ f i ≤ 99
    · rw [if_pos c] at b
      by_cases q : j = i
      · rw [q]; exact c
      · exact ih (i + 1) j (by omega) b
    · rw [if_neg c] at b
      omega
theorem BD_prT {t f : Nat → Int32} (h : BD t) : ∀ n, n ≤ 7 → (∀ j, j < n → bw (f j) 99) → BD (prT t f n) := by
  intro n
  induction n with
  | zero => intro _ _; exact h
  | succ n ih => intro h1 h2; exact BD_farm (ih (by omega) (fun j hj => h2 j (by omega))) (by omega) (.inl ⟨rfl, h2 n (by omega)⟩)
theorem op_parches {g : GT} {σ : S_} (h : IN σ) {s : Int32} : OP g σ M_X7_parches M_X8_parches [.int s] := by
  obtain ⟨nf, h7, e7, e8⟩ := h.nf
  obtain ⟨nc, h4, q7, q8⟩ := h.nc
  have hC := h.c
  have hB := h.b
  by_cases c : 0 ≤ s ∧ s ≤ 3
  · obtain ⟨s, hs0, rfl⟩ := zI_in (b := 3) (by decide) c
    have hs : s < 4 := by omega
    obtain ⟨s1, s2, ⟨sz, h24, z1, z2⟩, s3⟩ := h.2.2.2.2.2 s hs
    by_cases g0 : σ 83 s = 0
    · exact OP.rf h (by decide) (by decide) (ct_X7_parches_gone hs (s1.trans g0)) (by decide) (ct_X8_parches_gone (σ := rfz σ 2) hs g0)
    · have hN := (prN_le (f := σ (63 + 2 * s)) (min sz nf) 0).2
      have hm7 : (prN (σ (63 + 2 * s)) (min sz nf) 0) ≤ 7 := by omega
      refine OP.mk (by decide) (ct_X7_parches_ok hs h24 h7 e8 hC (fun q => g0 (s1.symm.trans q)) z1) (fun r τ hz => ?_)
      obtain ⟨a1, a2, a3⟩ := hz
      have e : τ 71 = σ 71 := a3 71 (by omega)
      have b2 : τ 83 = σ 83 := a3 83 (by omega)
      have b3 : τ 84 = σ 84 := a3 84 (by omega)
      have b4 : τ 85 = σ 85 := a3 85 (by omega)
      have r8 := ct_X8_parches_ok (g := g) (σ := τ) (nf := nf) hs h24 h7 (by rw [e]; exact e8) (by rw [b2]; exact g0) (by rw [b3]; exact z2)
      have hf : ∀ j, j < 24 → (fun j => τ 85 (24 * s + j)) j = σ (63 + 2 * s) j := fun j hj => by show τ 85 (24 * s + j) = _; rw [b4]; exact (s3 j hj).symm
      rw [prN_ext (f := fun j => τ 85 (24 * s + j)) (f' := σ (63 + 2 * s)) (min sz nf) 0 (fun j _ hj => hf j (by omega)), prT_ext (f := fun j => τ 85 (24 * s + j)) (f' := σ (63 + 2 * s)) _ (fun j hj => hf j (by omega)), e] at r8
      refine ⟨_, 3, _, a1, by decide, r8, fun r' τ' hz' => ?_⟩
      obtain ⟨c1, c2, c3⟩ := hz'
      have h70 : τ' 70 = σ 70 := (c3 70 (by decide)).trans (a3 70 (by omega))
      exact ⟨c1, IN.of (h.world (τ := τ) (ρ := τ') a2 (BD_prT hB _ hm7 (fun j hj => prN_bw _ _ j (Nat.zero_le j) hj)) (fun c a b q => a3 c (by unfold scr at q; omega)) c2 (fun c a q => (c3 c (by omega)).trans (a3 c (by omega))) (by rw [h70]) (by rw [h70])) (fun c hc => c3 c (by omega)) (fun c hc => rfl)⟩
  · exact OP.rf h (by decide) (by decide) (ct_X7_parches_no c) (by decide) (ct_X8_parches_no (σ := rfz σ 1) c)
theorem BD.row {t t' : Nat → Int32} (h : BD t) (e : ∀ k, k < 394 → t' k = t k) : BD t' := by
  have h0 := h.t0.row (t' := t') (fun k k1 k2 => (e k (by omega)).symm)
  have h1 := h.t1.row (t' := t') (fun k k1 k2 => (e k (by omega)).symm)
  obtain ⟨b1, b2, b3, b4, b6, b7, b8, b9, b10, b11⟩ := h
  unfold FB at b9
  refine ⟨by rw [e 5 (by omega)]; exact b1, by rw [e 6 (by omega)]; exact b2, by rw [e 3 (by omega)]; exact b3, by rw [e 4 (by omega)]; exact b4, by rw [e 1 (by omega)]; exact b6, fun p hp => by rw [e _ (by omega)]; exact b7 p hp, fun c hc => by rw [e _ (by omega), e _ (by omega)]; exact b8 c hc, fun n hn => ?_, h0, h1⟩
  unfold FB
  rw [e _ (by omega), e _ (by omega), e _ (by omega), e _ (by omega), e _ (by omega), e _ (by omega)]
  exact b9 n hn
theorem op_image {g : GT} {σ : S_} (h : IN σ) : OP g σ M_X7_image M_X8_image [] := by
  obtain ⟨h1, h2, ⟨k1, k2⟩, h4, ⟨b, hb, b1, b2, b3⟩, h6⟩ := id h
  refine OP.mk (by decide) ct_X7_image (fun r τ hz => ?_)
  obtain ⟨a1, τ1, hw, rfl⟩ := hz
  refine ⟨_, 3, _, a1, by decide, ct_X8_image, fun r' τ' hz' => ?_⟩
  obtain ⟨c1, τ2, hr, rfl⟩ := hz'
  have E1 : ∀ x, x ≠ 0 → ¬ (31 ≤ x ∧ x < 54) → up τ1 0 7 (σ 0 7 + 1) x = σ x := fun x a b => (up_row a).trans (hw.2 x b)
  have E2 : ∀ x, x ≠ 70 → x ≠ 72 → x ≠ 0 → ¬ (31 ≤ x ∧ x < 54) → up τ2 70 3 (up τ1 0 7 (σ 0 7 + 1) 70 3 + 1) x = σ x := fun x a b c d => (up_row a).trans ((hr.2 x b).trans (E1 x c d))
  have e70 : up τ1 0 7 (σ 0 7 + 1) 70 = σ 70 := E1 70 (by decide) (by omega)
  refine ⟨by rw [c1, e70, k1], ?_⟩
  have hT : ∀ x, x ≠ 70 → up τ2 70 3 (up τ1 0 7 (σ 0 7 + 1) 70 3 + 1) x = τ2 x := fun x a => up_row a
  have row72 : ∀ k, k < 394 → τ2 72 k = σ 71 k := fun k hk => (hr.1 k hk).trans (congrFun (E1 71 (by decide) (by omega)) k)
  have row0 : τ2 0 = up τ1 0 7 (σ 0 7 + 1) 0 := hr.2 0 (by decide)
  have t70 : τ2 70 = σ 70 := (hr.2 70 (by decide)).trans e70
  refine ⟨?_, ?_, ⟨?_, fun _ => ⟨?_, ?_⟩⟩, fun k hk => ?_, ⟨b, hb, ?_, ?_, fun j hj => ?_⟩, fun s hs => (h6 s hs).fr (E2 _ (by omega) (by omega) (by omega) (by omega)) (E2 _ (by omega) (by omega) (by omega) (by omega)) (congrFun (E2 83 (by decide) (by decide) (by decide) (by omega)) s) (congrFun (E2 84 (by decide) (by decide) (by decide) (by omega)) s) (fun j _ => congrFun (E2 85 (by decide) (by decide) (by decide) (by omega)) _)⟩
  · rw [E2 71 (by decide) (by decide) (by decide) (by omega)]
    exact h1.frame (fun c q1 q2 q3 => E2 (8 + c) (by omega) (by omega) (by omega) (by omega))
  · rw [E2 71 (by decide) (by decide) (by decide) (by omega)]
    exact h2
  · rw [hT 0 (by decide), row0, up_at, up_at, e70, k1]
  · rw [hT 72 (by decide)]
    have hcw : CW τ1 31 (τ2 72) := CW_wcp h1 hw row72
    exact hcw.frame (fun c q1 q2 q3 => (hT (31 + c) (by omega)).trans ((hr.2 (31 + c) (by omega)).trans (up_row (by omega))))
  · rw [hT 72 (by decide)]
    exact h2.row row72
  · rw [E2 2 (by decide) (by decide) (by decide) (by omega), E2 74 (by decide) (by decide) (by decide) (by omega)]
    exact h4 k hk
  · rw [E2 60 (by decide) (by decide) (by decide) (by omega)]
    exact b1
  · rw [up_nk (by decide), t70]
    exact b2
  · rw [E2 61 (by decide) (by decide) (by decide) (by omega), E2 82 (by decide) (by decide) (by decide) (by omega)]
    exact b3 j hj
theorem op_restore {g : GT} {σ : S_} (h : IN σ) : OP g σ M_X7_restore M_X8_restore [] := by
  obtain ⟨h1, h2, ⟨k1, k2⟩, h4, ⟨b, hb, b1, b2, b3⟩, h6⟩ := id h
  by_cases c : σ 70 3 = 0
  · exact OP.rf h (by decide) (by decide) (ct_X7_restore_no (k1.trans c)) (by decide) (ct_X8_restore_no (σ := rfz σ 2) c)
  · obtain ⟨hK, hBK⟩ := k2 c
    refine OP.mk (by decide) (ct_X7_restore_ok (fun q => c (k1.symm.trans q))) (fun r τ hz => ?_)
    obtain ⟨a1, hw⟩ := hz
    have e70 : τ 70 = σ 70 := hw.2 70 (by omega)
    have e72 : τ 72 = σ 72 := hw.2 72 (by omega)
    refine ⟨_, 3, _, a1, by decide, ct_X8_restore_ok (σ := τ) (by rw [e70]; exact c), fun r' τ' hz' => ?_⟩
    obtain ⟨c1, hr⟩ := hz'
    have row71 : ∀ k, k < 394 → τ' 71 k = σ 72 k := fun k hk => (hr.1 k hk).trans (by rw [e72])
    refine ⟨by rw [c1, e72]; exact congrArg Value.int (hK.at LM_hour).symm, ?_⟩
    have h70 : τ' 70 = σ 70 := (hr.2 70 (by decide)).trans e70
    exact IN.of (h.world (τ := τ) (ρ := τ') (CW_wcp hK hw row71) (hBK.row row71) (fun c a b s => hw.2 c (by omega)) rfl (fun c a s => (hr.2 c (by omega)).trans (hw.2 c (by omega))) (by rw [h70]) (by rw [h70])) (fun c hc => hr.2 c (by omega)) (fun c hc => rfl)
/-- one sheet changed -/
theorem IN.sheet {σ τ ρ : S_} (h : IN σ) {s : Nat} (hs : s < 4) (hn : SH1 τ ρ s) (e : ∀ c, c < 70 → c ≠ 62 + 2 * s → c ≠ 63 + 2 * s → τ c = σ c) (r : ∀ c, 70 ≤ c → c ≠ 83 → c ≠ 84 → c ≠ 85 → ¬ c = 86 → ρ c = σ c) (r3 : ∀ k, k ≠ s → ρ 83 k = σ 83 k) (r4 : ∀ k, k ≠ s → ρ 84 k = σ 84 k) (r5 : ∀ j, j < 24 * s ∨ 24 * s + 24 ≤ j → ρ 85 j = σ 85 j) : I2 τ ρ := by
  obtain ⟨h1, h2, h3, h4, ⟨b, hb, b1, b2, b3⟩, h6⟩ := h
  have E : ∀ c, c < 62 → τ c = σ c := fun c a => e c (by omega) (by omega) (by omega)
  have R : ∀ c, 70 ≤ c → c < 83 → ρ c = σ c := fun c a b => r c a (by omega) (by omega) (by omega) (by omega)
  have r70 := R 70 (by omega) (by omega)
  refine ⟨?_, ?_, h3.fr (fun c a b _ _ => E c (by omega)) (congrFun (E 0 (by omega)) 7) (congrFun r70 3) (R 72 (by omega) (by omega)), fun k hk => ?_, ⟨b, hb, (congrFun (E 60 (by omega)) 1).trans b1, (congrFun r70 17).trans b2, fun j hj => ?_⟩, fun s' hs' => ?_⟩
  · rw [R 71 (by omega) (by omega)]
    exact h1.frame (fun c a _ _ => E (8 + c) (by omega))
  · rw [R 71 (by omega) (by omega)]
    exact h2
  · rw [E 2 (by omega), R 74 (by omega) (by omega)]
    exact h4 k hk
  · rw [E 61 (by omega), R 82 (by omega) (by omega)]
    exact b3 j hj
  · by_cases q : s' = s
    · rw [q]; exact hn
    · exact (h6 s' hs').fr (e _ (by omega) (by omega) (by omega)) (e _ (by omega) (by omega) (by omega)) (r3 s' q) (r4 s' q) (fun j hj => r5 _ (by omega))
theorem op_sheet {g : GT} {σ : S_} (h : IN σ) {s b n : Int32} : OP g σ M_X7_sheet M_X8_sheet [.int s, .int b, .int n] := by
  obtain ⟨nf, h7, e7, e8⟩ := h.nf
  obtain ⟨nc, h4, q7, q8⟩ := h.nc
  have hC := h.c
  have hB := h.b
  by_cases c : (0 ≤ s ∧ s ≤ 3) ∧ (b = 0 ∨ b = 8 ∨ b = 16 ∨ b = 32)
  · obtain ⟨c1, hb0⟩ := c
    obtain ⟨s, hs0, rfl⟩ := zI_in (b := 3) (by decide) c1
    have hs : s < 4 := by omega
    by_cases b0 : b = 0
    · subst b0
      refine OP.mk (by decide) (ct_X7_sheet_0 hs) (fun r τ hz => ?_)
      obtain ⟨a1, a2, a3, a4, a5⟩ := hz
      refine ⟨_, 2, _, a1, by decide, ct_X8_sheet_0 (σ := τ) hs, fun r' τ' hz' => ?_⟩
      obtain ⟨d1, d2, d3, d4, d5, d6⟩ := hz'
      have F : ∀ c, c < 70 → τ' c = τ c := fun c q => d6 c (by omega) (by omega) (by omega)
      have x83 : τ 83 = σ 83 := a5 83 (by omega) (by omega)
      have x84 : τ 84 = σ 84 := a5 84 (by omega) (by omega)
      have x85 : τ 85 = σ 85 := a5 85 (by omega) (by omega)
      refine ⟨d1, IN.of (h.sheet (τ := τ) (ρ := τ') hs ⟨by rw [d2, upd_at]; exact a2, by rw [d2, upd_at]; exact hb0, ⟨0, by omega, a3, by rw [d3, upd_at]; rfl⟩, fun j hj => (a4 j hj).trans (d4 j hj).symm⟩ (fun c q1 q2 q3 => a5 c q2 q3) (fun c q q3 q4 q5 _ => (d6 c q3 q4 q5).trans (a5 c (by omega) (by omega))) (fun k q => by rw [d2, upd_ne q, x83]) (fun k q => by rw [d3, upd_ne q, x84]) (fun j q => by rw [d5 j q, x85])) F (fun c _ => rfl)⟩
    · have hb : b = 8 ∨ b = 16 ∨ b = 32 := hb0.resolve_left b0
      by_cases n0 : n < 0
      · exact OP.rf h (by decide) (by decide) (ct_X7_sheet_neg hs hb n0) (by decide) (ct_X8_sheet_neg (σ := rfz σ 3) hs hb n0)
      · by_cases n24 : 24 < n
        · exact OP.rf h (by decide) (by decide) (ct_X7_sheet_big hs hb n24) (by decide) (ct_X8_sheet_big (σ := rfz σ 1) hs hb n24)
        · obtain ⟨m, hm, rfl⟩ := zI_in (b := 24) (by decide) (show 0 ≤ n ∧ n ≤ nI 24 from ⟨Int32.not_lt.mp n0, Int32.not_lt.mp n24⟩)
          refine OP.mk (by decide) (ct_X7_sheet_ok hs hb hm) (fun r τ hz => ?_)
          obtain ⟨a1, a2, a3, a4, a5⟩ := hz
          refine ⟨_, 2, _, a1, by decide, ct_X8_sheet_ok (σ := τ) hs hb hm, fun r' τ' hz' => ?_⟩
          obtain ⟨d1, d2, d3, d4, d5, d6⟩ := hz'
          have F : ∀ c, c < 70 → τ' c = τ c := fun c q => d6 c (by omega) (by omega) (by omega)
          have x83 : τ 83 = σ 83 := a5 83 (by omega) (by omega)
          have x84 : τ 84 = σ 84 := a5 84 (by omega) (by omega)
          have x85 : τ 85 = σ 85 := a5 85 (by omega) (by omega)
          refine ⟨d1, IN.of (h.sheet (τ := τ) (ρ := τ') hs ⟨by rw [d2, upd_at]; exact a2, by rw [d2, upd_at]; exact hb0, ⟨m, by omega, a3, by rw [d3, upd_at]⟩, fun j hj => (a4 j hj).trans (d4 j hj).symm⟩ (fun c q1 q2 q3 => a5 c q2 q3) (fun c q q3 q4 q5 _ => (d6 c q3 q4 q5).trans (a5 c (by omega) (by omega))) (fun k q => by rw [d2, upd_ne q, x83]) (fun k q => by rw [d3, upd_ne q, x84]) (fun j q => by rw [d5 j q, x85])) F (fun c _ => rfl)⟩
  · exact OP.rf h (by decide) (by decide) (ct_X7_sheet_no c) (by decide) (ct_X8_sheet_no (σ := rfz σ 1) c)
theorem op_put {g : GT} {σ : S_} (h : IN σ) {s i v : Int32} : OP g σ M_X7_put M_X8_put [.int s, .int i, .int v] := by
  obtain ⟨nf, h7, e7, e8⟩ := h.nf
  obtain ⟨nc, h4, q7, q8⟩ := h.nc
  have hC := h.c
  have hB := h.b
  by_cases c : 0 ≤ s ∧ s ≤ 3
  · obtain ⟨s, hs0, rfl⟩ := zI_in (b := 3) (by decide) c
    have hs : s < 4 := by omega
    obtain ⟨s1, s2, ⟨sz, h24, z1, z2⟩, s3⟩ := h.2.2.2.2.2 s hs
    by_cases g0 : σ 83 s = 0
    · exact OP.rf h (by decide) (by decide) (ct_X7_put_gone hs (s1.trans g0)) (by decide) (ct_X8_put_gone (σ := rfz σ 2) hs g0)
    · have g7 : ¬ σ (62 + 2 * s) 1 = 0 := fun q => g0 (s1.symm.trans q)
      by_cases f : 0 ≤ i ∧ i ≤ nI sz - 1
      · obtain ⟨i, hi, rfl⟩ := nI_below (by omega) f
        have r8 := ct_X8_put_ok (g := g) (σ := up σ (63 + 2 * s) i (wV (σ (62 + 2 * s) 1) v)) (v := v) hs (by rw [up_nc (by omega)]; exact g0) hi h24 (by rw [up_nc (by omega)]; exact z2)
        rw [up_nc (by omega), put_wV (s2.resolve_left g0)] at r8
        refine OP.eq (by decide) (ct_X7_put_ok hs g7 hi h24 z1) (by decide) r8 rfl ?_
        rw [s1]
        refine IN.of (IN.sheet (τ := up σ (63 + 2 * s) i (wV (σ 83 s) v)) (ρ := up σ 85 (24 * s + i) (wV (σ 83 s) v)) h hs ⟨?_, ?_, ⟨sz, h24, ?_, ?_⟩, fun j hj => ?_⟩ (fun c a b d => up_row d) (fun c a q3 q4 q5 _ => up_row q5) (fun k q => up_nc (by decide)) (fun k q => up_nc (by decide)) (fun j q => up_nk (by omega))) (fun c hc => up_row (by omega)) (fun c hc => up_same (up_row (by omega)))
        · rw [up_nc (by omega), up_nc (by decide)]; exact s1
        · rw [up_nc (by decide)]; exact s2
        · rw [up_nc (by omega)]; exact z1
        · rw [up_nc (by decide)]; exact z2
        · by_cases q : j = i
          · rw [q, up_at, up_at]
          · rw [up_nk q, up_nk (by omega)]; exact s3 j hj
      · exact OP.rf h (by decide) (by decide) (ct_X7_put_far hs g7 (by rw [z1]; exact f)) (by decide) (ct_X8_put_far (σ := rfz σ 1) hs g0 (by show ¬ (0 ≤ i ∧ i ≤ σ 84 s - 1); rw [z2]; exact f))
  · exact OP.rf h (by decide) (by decide) (ct_X7_put_no c) (by decide) (ct_X8_put_no (σ := rfz σ 1) c)
