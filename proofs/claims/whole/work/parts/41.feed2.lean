theorem b255 : ∀ k, k < 32 → (255#32).getLsbD k = decide (k < 8) ∧ (255#64).getLsbD k = decide (k < 8) := by decide +kernel
theorem fd_bv (w : BitVec 64) (s : Nat) (hs : s + 8 ≤ 64) : (((((w >>> s).setWidth 32).setWidth 8).signExtend 32).setWidth 8).signExtend 32 &&& 255#32 = (w.sshiftRight s &&& 255#64).setWidth 32 := by
  apply BitVec.eq_of_getLsbD_eq
  intro k hk
  have hk64 : k < 64 := by omega
  rw [BitVec.getLsbD_and, (b255 k hk).1, BitVec.getLsbD_setWidth, BitVec.getLsbD_and, (b255 k hk).2]
  by_cases c : k < 8
  · have a2 : s + k < 64 := by omega
    have a4 : ¬ 64 ≤ k := by omega
    simp only [BitVec.getLsbD_setWidth, BitVec.getLsbD_signExtend, BitVec.getLsbD_sshiftRight, BitVec.getLsbD_ushiftRight, c, hk, a2, a4, if_true, decide_true, decide_false, Bool.true_and, Bool.and_true, Bool.not_false]
  · simp only [c, decide_false, Bool.and_false]
theorem fd_bv' (w : BitVec 64) (s : Nat) (hs : s + 8 ≤ 64) : (((((w >>> s).signExtend 32).signExtend 8).signExtend 32).signExtend 8).signExtend 32 &&& 255#32 = (w.sshiftRight s &&& 255#64).signExtend 32 := by
  rw [BitVec.signExtend_eq_setWidth_of_le (w >>> s) (by decide), BitVec.signExtend_eq_setWidth_of_le _ (by decide : 8 ≤ 32), BitVec.signExtend_eq_setWidth_of_le _ (by decide : 8 ≤ 32), BitVec.signExtend_eq_setWidth_of_le _ (by decide : 32 ≤ 64)]
  exact fd_bv w s hs
theorem fd_eq (w : Int64) {i : Nat} (h : i < 8) : (fdC w i).toInt8.toInt32 &&& 255 = fdM w i := by
  have k : ∀ (s : Nat) (a : UInt64) (b : Int64), s + 8 ≤ 64 → a.toBitVec % 64 = BitVec.ofNat 64 s → b.toBitVec.smod 64 = BitVec.ofNat 64 s → ((w.toUInt64 >>> a).toInt64.toInt32.toInt8.toInt32).toInt8.toInt32 &&& 255 = ((w >>> b) &&& 255).toInt32 := by
    intro s a b hs ha hb
    apply Int32.toBitVec_inj.mp
    refine Eq.trans ?_ (Eq.trans (fd_bv' w.toBitVec s hs) ?_)
    · rw [Int32.toBitVec_and]
      congr 1
      have e : (w.toUInt64 >>> a).toBitVec = w.toBitVec >>> s := by
        rw [UInt64.toBitVec_shiftRight, ha]
        show w.toBitVec >>> (BitVec.ofNat 64 s).toNat = _
        rw [BitVec.toNat_ofNat, Nat.mod_eq_of_lt (by omega)]
      rw [← e]
      rfl
    · have e : (w >>> b).toBitVec = w.toBitVec.sshiftRight s := by
        rw [Int64.toBitVec_shiftRight, hb]
        show w.toBitVec.sshiftRight (BitVec.ofNat 64 s).toNat = _
        rw [BitVec.toNat_ofNat, Nat.mod_eq_of_lt (by omega)]
      rw [← e]
      rfl
  rcases (show i = 0 ∨ i = 1 ∨ i = 2 ∨ i = 3 ∨ i = 4 ∨ i = 5 ∨ i = 6 ∨ i = 7 by omega) with rfl | rfl | rfl | rfl | rfl | rfl | rfl | rfl
  · exact k 0 _ _ (by decide) (by decide) (by decide)
  · exact k 8 _ _ (by decide) (by decide) (by decide)
  · exact k 16 _ _ (by decide) (by decide) (by decide)
  · exact k 24 _ _ (by decide) (by decide) (by decide)
  · exact k 32 _ _ (by decide) (by decide) (by decide)
  · exact k 40 _ _ (by decide) (by decide) (by decide)
  · exact k 48 _ _ (by decide) (by decide) (by decide)
  · exact k 56 _ _ (by decide) (by decide) (by decide)
theorem feedT_keep {t : Nat → Int32} {w : Int64} {nt m : Nat} : ∀ i, m ≠ 3 → (m < 310 + nt ∨ 310 + nt + i ≤ m) → feedT t w nt i m = t m := by
  intro i
  induction i with
  | zero => intro _ _; rfl
  | succ i ih =>
    intro h1 h2
    show upd (upd _ _ _) _ _ m = _
    rw [upd_ne h1, upd_ne (by omega)]
    exact ih h1 (by omega)
theorem feedT_at {t : Nat → Int32} {w : Int64} {nt j : Nat} : ∀ i, j < i → feedT t w nt i (310 + (nt + j)) = fdM w j := by
  intro i
  induction i with
  | zero => intro h; exact absurd h (Nat.not_lt_zero _)
  | succ i ih =>
    intro h
    show upd (upd _ _ _) _ _ _ = _
    rw [upd_ne (by omega)]
    by_cases e : j = i
    · subst e; exact upd_at
    · rw [upd_ne (by omega)]; exact ih (by omega)
/-- the class's World behind a feed is as the reference's row behind it -/
theorem CW_feed {σ τ : S_} {t : Nat → Int32} {w : Int64} {n nt : Nat} (h1 : 1 ≤ n) (h8 : n ≤ 8) (h6 : nt + n ≤ 60) (hC : CW σ 8 t) (h3 : t 3 = nI nt) (hw : ∀ j, j < n → τ 13 (nt + j) = fdC w j) (hk : ∀ j, j < nt ∨ nt + n ≤ j → τ 13 j = σ 13 j) (hs : τ 8 = upd (σ 8) 10 (nI (nt + n))) (hO : ∀ x, x ≠ 13 → x ≠ 8 → τ x = σ x) : CW τ 8 (feedT t w nt n) := by
  have hC1 : CW (up σ 8 10 (nI (nt + n))) 8 (upd t 3 (nI (nt + n))) := CW.up hC LM_taped _
  have e3 : feedT t w nt n 3 = nI (nt + n) := feedT_3 h3 n
  have ek : ∀ m, (m < 310 ∨ 370 ≤ m) → feedT t w nt n m = upd t 3 (nI (nt + n)) m := fun m hm => by
    by_cases q : m = 3
    · subst q; rw [e3, upd_at]
    · rw [upd_ne q]; exact feedT_keep n q (by omega)
  have er : ∀ x, x ≠ 13 → τ x = up σ 8 10 (nI (nt + n)) x := fun x hx => by
    by_cases q : x = 8
    · subst q; rw [up_own]; exact hs
    · rw [up_row q]; exact hO x hx q
  refine ⟨fun x hx => ?_, fun i hi => ?_, ?_, ?_⟩
  · obtain ⟨a1, a2, a3, a4⟩ := LM_away x hx
    rw [er _ (by omega), ek _ (by omega)]
    exact hC1.1 x hx
  · by_cases q : i < nt ∨ nt + n ≤ i
    · rw [hk i q, feedT_keep n (by omega) (by omega)]
      exact hC.2.1 i hi
    · obtain ⟨j, rfl⟩ : ∃ j, i = nt + j := ⟨i - nt, by omega⟩
      rw [hw j (by omega), feedT_at n (by omega)]
      exact fd_eq w (by omega)
  · exact (hC1.2.2.1.cells (er _ (by decide)) (er _ (by decide)) (er _ (by decide))).row (fun m m1 m2 => (ek m (by omega)).symm)
  · exact (hC1.2.2.2.cells (er _ (by decide)) (er _ (by decide)) (er _ (by decide))).row (fun m m1 m2 => (ek m (by omega)).symm)
theorem BD_feed {t : Nat → Int32} {w : Int64} {n nt : Nat} (h : BD t) (h3 : t 3 = nI nt) (h6 : nt + n ≤ 60) : BD (feedT t w nt n) := by
  have ek : ∀ m, m ≠ 3 → (m < 310 ∨ 370 ≤ m) → feedT t w nt n m = t m := fun m q hm => feedT_keep n q (by omega)
  obtain ⟨a, b, c, d, e, f, k, l, m, o⟩ := h
  refine ⟨by rw [ek 5 (by decide) (by decide)]; exact a, by rw [ek 6 (by decide) (by decide)]; exact b, ⟨nt + n, h6, feedT_3 h3 n⟩, by rw [ek 4 (by decide) (by decide)]; exact d, by rw [ek 1 (by decide) (by decide)]; exact e, fun p hp => by rw [ek _ (by omega) (by omega)]; exact f p hp, fun p hp => by rw [ek _ (by omega) (by omega), ek _ (by omega) (by omega)]; exact k p hp, fun p hp => ?_, ?_, ?_⟩
  · unfold FB
    rw [ek _ (by omega) (by omega), ek _ (by omega) (by omega), ek _ (by omega) (by omega), ek _ (by omega) (by omega), ek _ (by omega) (by omega), ek _ (by omega) (by omega)]
    exact l p hp
  · exact m.row (fun k k1 k2 => (ek k (by omega) (by omega)).symm)
  · exact o.row (fun k k1 k2 => (ek k (by omega) (by omega)).symm)
