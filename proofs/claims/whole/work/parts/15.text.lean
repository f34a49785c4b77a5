abbrev remF (x k : Int32) : Int32 := x - x / k * k
def dayF (pl h : Int32) : Int32 := if 8 ≤ remF h 24 ∧ remF h 24 ≤ 14 then 2 * pl else pl
def growF (kd m hd h : Int32) : Int32 := if kd = 1 then 1 + m / 3 + hd / 4 else if kd = 2 then dayF (1 + m / 3) h else if kd = 4 then 1 + m / 3 + hd / 4 + m else if kd = 5 then dayF (1 + m / 3) h + (if remF h 7 = 0 then 3 else 0) else if kd = 6 then 1 + m / 3 - 1 else 1 + m / 3
def paysF (kd hd pl : Int32) : Int32 := if kd = 2 then pl / 2 else if kd = 3 then 2 * pl else if kd = 4 then pl + 5 else if kd = 5 then pl / 2 + hd else if kd = 6 then 0 else pl
theorem d87 {x : Int32} : 8 ≤ x ↔ ¬ x ≤ 7 := by grind
theorem d15 {x : Int32} : x ≤ 14 ↔ ¬ 15 ≤ x := by grind
def opF (c x y : Int32) : Int32 := if c = 37 then (if y = 0 then 0 else remF x y) else if c = 38 then bI (x ≠ 0 ∧ y ≠ 0) else if c = 42 then x * y else if c = 43 then x + y else if c = 45 then x - y else if c = 47 then (if y = 0 then 0 else x / y) else if c = 60 then bI (x < y) else if c = 61 then bI (x = y) else if c = 62 then bI (y < x) else if c = 124 then bI (x ≠ 0 ∨ y ≠ 0) else 0
theorem div_m1 (x : Int32) : x / (-1) = -x := by
  apply Int32.toInt_inj.mp
  rw [Int32.toInt_div, show (-1 : Int32).toInt = -1 from rfl, Int.tdiv_neg, Int.tdiv_one, Int32.toInt_neg]
theorem rem_m1 (x : Int32) : remF x (-1) = 0 := by
  show x - x / (-1) * (-1) = 0
  rw [div_m1]
  grind

theorem ct_X0_byDay {g : GT} {σ : S_} {p h : Int32} : CT g 1 M_X0_byDay [.int p, .int h] σ (EQ (.int (dayF p h)) σ) := by
  refine ct_of [.int p, .int h] pn_X0_byDay rfl (Nat.le_of_ble_eq_true rfl) ?_
  refine j_iload_n dX0_byDay_0 (q := 1) rfl rfl ?_
  refine j_bipush (v := 24) dX0_byDay_1 (q := 3) rfl (by decide) ?_
  refine j_irem dX0_byDay_3 (q := 4) rfl (by decide) ?_
  refine j_bipush (v := 8) dX0_byDay_4 (q := 6) rfl (by decide) ?_
  refine j_bipush (v := 14) dX0_byDay_6 (q := 8) rfl (by decide) ?_
  refine j_callSi3E (M' := M_X7_within) lk_X0_38 ms_X7_within (by decide) (Nat.le_of_ble_eq_true rfl) dX0_byDay_8 (q := 11) rfl (ct_X7_within) ?_
  refine j_ifeqB dX0_byDay_11 (t := 20) (by decide) (q := 14) rfl (fun c_11 => ?_) (fun c_11 => ?_)
  · skip
    refine j_iconst (v := 2) dX0_byDay_14 (q := 15) rfl (by decide) ?_
    refine j_iload_n dX0_byDay_15 (q := 16) rfl rfl ?_
    refine j_imul dX0_byDay_16 (q := 17) rfl ?_
    refine j_goto (q := 21) dX0_byDay_17 (by decide) ?_
    refine j_ireti dX0_byDay_21 rfl ?_
    exact ⟨congrArg Value.int (by first | exact (if_pos c_11).symm | exact (if_neg c_11).symm), rfl⟩
  · skip
    refine j_iload_n dX0_byDay_20 (q := 21) rfl rfl ?_
    refine j_ireti dX0_byDay_21 rfl ?_
    exact ⟨congrArg Value.int (by first | exact (if_pos c_11).symm | exact (if_neg c_11).symm), rfl⟩
theorem ct_X0_grows {g : GT} {σ : S_} {a : Nat} {h : Int32} (ha : tC[a]? = some (3, 0)) : CT g 2 M_X0_grows [.ref a, .int h] σ (EQ (.int (growF (σ a 0) (σ a 1) (σ a 3) h)) σ) := by
  refine ct_of [.ref a, .int h, .null] pn_X0_grows rfl (Nat.le_of_ble_eq_true rfl) ?_
  refine j_iconst (v := 1) dX0_grows_0 (q := 1) rfl (by decide) ?_
  refine j_aload_n dX0_grows_1 (q := 2) rfl rfl ?_
  refine j_getI fs_X0_31 ha rfl dX0_grows_2 (q := 5) rfl ?_
  refine j_iconst (v := 3) dX0_grows_5 (q := 6) rfl (by decide) ?_
  refine j_idiv dX0_grows_6 (q := 7) rfl (by decide) ?_
  refine j_iadd dX0_grows_7 (q := 8) rfl ?_
  refine j_istore_n_3_2 dX0_grows_8 (q := 9) rfl rfl rfl ?_
  refine j_aload_n dX0_grows_9 (q := 10) rfl rfl ?_
  refine j_getI fs_X0_28 ha rfl dX0_grows_10 (q := 13) rfl ?_
  refine j_tsw_1_6 dX0_grows_13 (td := 104) (t0 := 52) (t1 := 61) (t2 := 104) (t3 := 67) (t4 := 81) (t5 := 100) (by decide) (by decide) (by decide) (by decide) (by decide) (by decide) (by decide) (fun e_13 => ?_) (fun e_13 => ?_) (fun e_13 => ?_) (fun e_13 => ?_) (fun e_13 => ?_) (fun e_13 => ?_) (fun e_13_0 e_13_1 e_13_2 e_13_3 e_13_4 e_13_5 => ?_)
  · skip
    refine j_iload_n dX0_grows_52 (q := 53) rfl rfl ?_
    refine j_aload_n dX0_grows_53 (q := 54) rfl rfl ?_
    refine j_getI fs_X0_19 ha rfl dX0_grows_54 (q := 57) rfl ?_
    refine j_iconst (v := 4) dX0_grows_57 (q := 58) rfl (by decide) ?_
    refine j_idiv dX0_grows_58 (q := 59) rfl (by decide) ?_
    refine j_iadd dX0_grows_59 (q := 60) rfl ?_
    refine j_ireti dX0_grows_60 rfl ?_
    exact ⟨congrArg Value.int (by simp [growF, *]), rfl⟩
  · skip
    refine j_iload_n dX0_grows_61 (q := 62) rfl rfl ?_
    refine j_iload_n dX0_grows_62 (q := 63) rfl rfl ?_
    refine j_callSi2E (M' := M_X0_byDay) lk_X0_34 ms_X0_byDay (by decide) (Nat.le_of_ble_eq_true rfl) dX0_grows_63 (q := 66) rfl (ct_X0_byDay) ?_
    refine j_ireti dX0_grows_66 rfl ?_
    exact ⟨congrArg Value.int (by simp [growF, *]), rfl⟩
  · skip
    refine j_iload_n dX0_grows_104 (q := 105) rfl rfl ?_
    refine j_ireti dX0_grows_105 rfl ?_
    exact ⟨congrArg Value.int (by simp [growF, *]), rfl⟩
  · skip
    refine j_iload_n dX0_grows_67 (q := 68) rfl rfl ?_
    refine j_aload_n dX0_grows_68 (q := 69) rfl rfl ?_
    refine j_getI fs_X0_19 ha rfl dX0_grows_69 (q := 72) rfl ?_
    refine j_iconst (v := 4) dX0_grows_72 (q := 73) rfl (by decide) ?_
    refine j_idiv dX0_grows_73 (q := 74) rfl (by decide) ?_
    refine j_iadd dX0_grows_74 (q := 75) rfl ?_
    refine j_aload_n dX0_grows_75 (q := 76) rfl rfl ?_
    refine j_getI fs_X0_31 ha rfl dX0_grows_76 (q := 79) rfl ?_
    refine j_iadd dX0_grows_79 (q := 80) rfl ?_
    refine j_ireti dX0_grows_80 rfl ?_
    exact ⟨congrArg Value.int (by simp [growF, *]), rfl⟩
  · skip
    refine j_iload_n dX0_grows_81 (q := 82) rfl rfl ?_
    refine j_iload_n dX0_grows_82 (q := 83) rfl rfl ?_
    refine j_callSi2E (M' := M_X0_byDay) lk_X0_34 ms_X0_byDay (by decide) (Nat.le_of_ble_eq_true rfl) dX0_grows_83 (q := 86) rfl (ct_X0_byDay) ?_
    refine j_iload_n dX0_grows_86 (q := 87) rfl rfl ?_
    refine j_bipush (v := 7) dX0_grows_87 (q := 89) rfl (by decide) ?_
    refine j_irem dX0_grows_89 (q := 90) rfl (by decide) ?_
    refine j_if_ne dX0_grows_90 (t := 97) (by decide) (q := 93) rfl (fun c_90 => ?_) (fun c_90 => ?_)
    · skip
      refine j_iconst (v := 0) dX0_grows_97 (q := 98) rfl (by decide) ?_
      refine j_iadd dX0_grows_98 (q := 99) rfl ?_
      refine j_ireti dX0_grows_99 rfl ?_
      exact ⟨congrArg Value.int (by simp [growF, *]), rfl⟩
    · skip
      refine j_iconst (v := 3) dX0_grows_93 (q := 94) rfl (by decide) ?_
      refine j_goto (q := 98) dX0_grows_94 (by decide) ?_
      refine j_iadd dX0_grows_98 (q := 99) rfl ?_
      refine j_ireti dX0_grows_99 rfl ?_
      exact ⟨congrArg Value.int (by simp [growF, *]), rfl⟩
  · skip
    refine j_iload_n dX0_grows_100 (q := 101) rfl rfl ?_
    refine j_iconst (v := 1) dX0_grows_101 (q := 102) rfl (by decide) ?_
    refine j_isub dX0_grows_102 (q := 103) rfl ?_
    refine j_ireti dX0_grows_103 rfl ?_
    exact ⟨congrArg Value.int (by simp [growF, *]), rfl⟩
  · skip
    refine j_iload_n dX0_grows_104 (q := 105) rfl rfl ?_
    refine j_ireti dX0_grows_105 rfl ?_
    exact ⟨congrArg Value.int (by simp [growF, *]), rfl⟩
theorem ct_X0_pays {g : GT} {σ : S_} {a : Nat} (ha : tC[a]? = some (3, 0)) : CT g 0 M_X0_pays [.ref a] σ (EQ (.int (paysF (σ a 0) (σ a 3) (σ a 4 + σ a 2))) σ) := by
  refine ct_of [.ref a, .null] pn_X0_pays rfl (Nat.le_of_ble_eq_true rfl) ?_
  refine j_aload_n dX0_pays_0 (q := 1) rfl rfl ?_
  refine j_getI fs_X0_22 ha rfl dX0_pays_1 (q := 4) rfl ?_
  refine j_aload_n dX0_pays_4 (q := 5) rfl rfl ?_
  refine j_getI fs_X0_15 ha rfl dX0_pays_5 (q := 8) rfl ?_
  refine j_iadd dX0_pays_8 (q := 9) rfl ?_
  refine j_istore_n_2_1 dX0_pays_9 (q := 10) rfl rfl rfl ?_
  refine j_aload_n dX0_pays_10 (q := 11) rfl rfl ?_
  refine j_getI fs_X0_28 ha rfl dX0_pays_11 (q := 14) rfl ?_
  refine j_tsw_2_6 dX0_pays_14 (td := 71) (t0 := 48) (t1 := 52) (t2 := 56) (t3 := 60) (t4 := 69) (by decide) (by decide) (by decide) (by decide) (by decide) (by decide) (fun e_14 => ?_) (fun e_14 => ?_) (fun e_14 => ?_) (fun e_14 => ?_) (fun e_14 => ?_) (fun e_14_0 e_14_1 e_14_2 e_14_3 e_14_4 => ?_)
  · skip
    refine j_iload_n dX0_pays_48 (q := 49) rfl rfl ?_
    refine j_iconst (v := 2) dX0_pays_49 (q := 50) rfl (by decide) ?_
    refine j_idiv dX0_pays_50 (q := 51) rfl (by decide) ?_
    refine j_ireti dX0_pays_51 rfl ?_
    exact ⟨congrArg Value.int (by simp [paysF, *]), rfl⟩
  · skip
    refine j_iconst (v := 2) dX0_pays_52 (q := 53) rfl (by decide) ?_
    refine j_iload_n dX0_pays_53 (q := 54) rfl rfl ?_
    refine j_imul dX0_pays_54 (q := 55) rfl ?_
    refine j_ireti dX0_pays_55 rfl ?_
    exact ⟨congrArg Value.int (by simp [paysF, *]), rfl⟩
  · skip
    refine j_iload_n dX0_pays_56 (q := 57) rfl rfl ?_
    refine j_iconst (v := 5) dX0_pays_57 (q := 58) rfl (by decide) ?_
    refine j_iadd dX0_pays_58 (q := 59) rfl ?_
    refine j_ireti dX0_pays_59 rfl ?_
    exact ⟨congrArg Value.int (by simp [paysF, *]), rfl⟩
  · skip
    refine j_iload_n dX0_pays_60 (q := 61) rfl rfl ?_
    refine j_iconst (v := 2) dX0_pays_61 (q := 62) rfl (by decide) ?_
    refine j_idiv dX0_pays_62 (q := 63) rfl (by decide) ?_
    refine j_aload_n dX0_pays_63 (q := 64) rfl rfl ?_
    refine j_getI fs_X0_19 ha rfl dX0_pays_64 (q := 67) rfl ?_
    refine j_iadd dX0_pays_67 (q := 68) rfl ?_
    refine j_ireti dX0_pays_68 rfl ?_
    exact ⟨congrArg Value.int (by simp [paysF, *]), rfl⟩
  · skip
    refine j_iconst (v := 0) dX0_pays_69 (q := 70) rfl (by decide) ?_
    refine j_ireti dX0_pays_70 rfl ?_
    exact ⟨congrArg Value.int (by simp [paysF, *]), rfl⟩
  · skip
    refine j_iload_n dX0_pays_71 (q := 72) rfl rfl ?_
    refine j_ireti dX0_pays_72 rfl ?_
    exact ⟨congrArg Value.int (by simp [paysF, *]), rfl⟩
theorem ct_X8_its0 {g : GT} {σ : S_} {f : Nat} (hf : f < 7) : CT g 0 M_X8_its [.ref 70, .int (nI f), .int 0] σ (EQ (.int (σ 71 (10 + 6 * f))) σ) := ct_X8_its (k := 0) hf (by decide)
theorem ct_X8_growsOf {g : GT} {σ : S_} {f : Nat} (hf : f < 7) : CT g 1 M_X8_growsOf [.ref 70, .int (nI f)] σ (EQ (.int (growF (σ 71 (10 + 6 * f)) (σ 71 (10 + 6 * f + 1)) (σ 71 (10 + 6 * f + 3)) (σ 71 0))) σ) := by
  refine ct_of [.ref 70, .int (nI f), .null, .null, .null] pn_X8_growsOf rfl (Nat.le_of_ble_eq_true rfl) ?_
  refine j_iconst (v := 1) dX8_growsOf_0 (q := 1) rfl (by decide) ?_
  refine j_aload_n dX8_growsOf_1 (q := 2) rfl rfl ?_
  refine j_iload_n dX8_growsOf_2 (q := 3) rfl rfl ?_
  refine j_iconst (v := 1) dX8_growsOf_3 (q := 4) rfl (by decide) ?_
  refine j_callVi2E (M' := M_X8_its) lk_X8_123 mv_X8_its ob_70 (by decide) (Nat.le_of_ble_eq_true rfl) dX8_growsOf_4 (q := 7) rfl (ct_X8_its (k := 1) hf (by decide)) ?_
  refine j_iconst (v := 3) dX8_growsOf_7 (q := 8) rfl (by decide) ?_
  refine j_idiv dX8_growsOf_8 (q := 9) rfl (by decide) ?_
  refine j_iadd dX8_growsOf_9 (q := 10) rfl ?_
  refine j_istore_n_5_2 dX8_growsOf_10 (q := 11) rfl rfl rfl ?_
  refine j_aload_n dX8_growsOf_11 (q := 12) rfl rfl ?_
  refine j_getR (r := 71) fs_X8_7 rfl rfl rfl dX8_growsOf_12 (q := 15) rfl ?_
  refine j_iconst (v := 0) dX8_growsOf_15 (q := 16) rfl (by decide) ?_
  refine j_ialdN (k := 0) rfl (by decide) dX8_growsOf_16 (q := 17) rfl ?_
  refine j_bipush (v := 24) dX8_growsOf_17 (q := 19) rfl (by decide) ?_
  refine j_irem dX8_growsOf_19 (q := 20) rfl (by decide) ?_
  refine j_istore_n_5_3 dX8_growsOf_20 (q := 21) rfl rfl rfl ?_
  refine j_iload_n dX8_growsOf_21 (q := 22) rfl rfl ?_
  refine j_bipush (v := 7) dX8_growsOf_22 (q := 24) rfl (by decide) ?_
  refine j_icmp_le dX8_growsOf_24 (t := 39) (by decide) (q := 27) rfl (fun c_24 => ?_) (fun c_24 => ?_)
  · skip
    refine j_iload_n dX8_growsOf_39 (q := 40) rfl rfl ?_
    refine j_istore_5_4 dX8_growsOf_40 (q := 42) rfl rfl rfl ?_
    refine j_aload_n dX8_growsOf_42 (q := 43) rfl rfl ?_
    refine j_iload_n dX8_growsOf_43 (q := 44) rfl rfl ?_
    refine j_iconst (v := 0) dX8_growsOf_44 (q := 45) rfl (by decide) ?_
    refine j_callVi2E (M' := M_X8_its) lk_X8_123 mv_X8_its ob_70 (by decide) (Nat.le_of_ble_eq_true rfl) dX8_growsOf_45 (q := 48) rfl (ct_X8_its0 hf) ?_
    refine j_tsw_1_6 dX8_growsOf_48 (td := 146) (t0 := 88) (t1 := 99) (t2 := 146) (t3 := 102) (t4 := 120) (t5 := 142) (by decide) (by decide) (by decide) (by decide) (by decide) (by decide) (by decide) (fun e_48 => ?_) (fun e_48 => ?_) (fun e_48 => ?_) (fun e_48 => ?_) (fun e_48 => ?_) (fun e_48 => ?_) (fun e_48_0 e_48_1 e_48_2 e_48_3 e_48_4 e_48_5 => ?_)
    · skip
      refine j_iload_n dX8_growsOf_88 (q := 89) rfl rfl ?_
      refine j_aload_n dX8_growsOf_89 (q := 90) rfl rfl ?_
      refine j_iload_n dX8_growsOf_90 (q := 91) rfl rfl ?_
      refine j_iconst (v := 3) dX8_growsOf_91 (q := 92) rfl (by decide) ?_
      refine j_callVi2E (M' := M_X8_its) lk_X8_123 mv_X8_its ob_70 (by decide) (Nat.le_of_ble_eq_true rfl) dX8_growsOf_92 (q := 95) rfl (ct_X8_its (k := 3) hf (by decide)) ?_
      refine j_iconst (v := 4) dX8_growsOf_95 (q := 96) rfl (by decide) ?_
      refine j_idiv dX8_growsOf_96 (q := 97) rfl (by decide) ?_
      refine j_iadd dX8_growsOf_97 (q := 98) rfl ?_
      refine j_ireti dX8_growsOf_98 rfl ?_
      exact ⟨congrArg Value.int (by simp [growF, dayF, d87, d15, *]), rfl⟩
    · skip
      refine j_iload dX8_growsOf_99 (q := 101) rfl rfl ?_
      refine j_ireti dX8_growsOf_101 rfl ?_
      exact ⟨congrArg Value.int (by simp [growF, dayF, d87, d15, *]), rfl⟩
    · skip
      refine j_iload_n dX8_growsOf_146 (q := 147) rfl rfl ?_
      refine j_ireti dX8_growsOf_147 rfl ?_
      exact ⟨congrArg Value.int (by simp [growF, dayF, d87, d15, *]), rfl⟩
    · skip
      refine j_iload_n dX8_growsOf_102 (q := 103) rfl rfl ?_
      refine j_aload_n dX8_growsOf_103 (q := 104) rfl rfl ?_
      refine j_iload_n dX8_growsOf_104 (q := 105) rfl rfl ?_
      refine j_iconst (v := 3) dX8_growsOf_105 (q := 106) rfl (by decide) ?_
      refine j_callVi2E (M' := M_X8_its) lk_X8_123 mv_X8_its ob_70 (by decide) (Nat.le_of_ble_eq_true rfl) dX8_growsOf_106 (q := 109) rfl (ct_X8_its (k := 3) hf (by decide)) ?_
      refine j_iconst (v := 4) dX8_growsOf_109 (q := 110) rfl (by decide) ?_
      refine j_idiv dX8_growsOf_110 (q := 111) rfl (by decide) ?_
      refine j_iadd dX8_growsOf_111 (q := 112) rfl ?_
      refine j_aload_n dX8_growsOf_112 (q := 113) rfl rfl ?_
      refine j_iload_n dX8_growsOf_113 (q := 114) rfl rfl ?_
      refine j_iconst (v := 1) dX8_growsOf_114 (q := 115) rfl (by decide) ?_
      refine j_callVi2E (M' := M_X8_its) lk_X8_123 mv_X8_its ob_70 (by decide) (Nat.le_of_ble_eq_true rfl) dX8_growsOf_115 (q := 118) rfl (ct_X8_its (k := 1) hf (by decide)) ?_
      refine j_iadd dX8_growsOf_118 (q := 119) rfl ?_
      refine j_ireti dX8_growsOf_119 rfl ?_
      exact ⟨congrArg Value.int (by simp [growF, dayF, d87, d15, *]), rfl⟩
    · skip
      refine j_aload_n dX8_growsOf_120 (q := 121) rfl rfl ?_
      refine j_getR (r := 71) fs_X8_7 rfl rfl rfl dX8_growsOf_121 (q := 124) rfl ?_
      refine j_iconst (v := 0) dX8_growsOf_124 (q := 125) rfl (by decide) ?_
      refine j_ialdN (k := 0) rfl (by decide) dX8_growsOf_125 (q := 126) rfl ?_
      refine j_bipush (v := 7) dX8_growsOf_126 (q := 128) rfl (by decide) ?_
      refine j_irem dX8_growsOf_128 (q := 129) rfl (by decide) ?_
      refine j_if_ne dX8_growsOf_129 (t := 139) (by decide) (q := 132) rfl (fun c_129 => ?_) (fun c_129 => ?_)
      · skip
        refine j_iload dX8_growsOf_139 (q := 141) rfl rfl ?_
        refine j_ireti dX8_growsOf_141 rfl ?_
        exact ⟨congrArg Value.int (by simp [growF, dayF, d87, d15, *]), rfl⟩
      · skip
        refine j_iload dX8_growsOf_132 (q := 134) rfl rfl ?_
        refine j_iconst (v := 3) dX8_growsOf_134 (q := 135) rfl (by decide) ?_
        refine j_iadd dX8_growsOf_135 (q := 136) rfl ?_
        refine j_goto (q := 141) dX8_growsOf_136 (by decide) ?_
        refine j_ireti dX8_growsOf_141 rfl ?_
        exact ⟨congrArg Value.int (by simp [growF, dayF, d87, d15, *]), rfl⟩
    · skip
      refine j_iload_n dX8_growsOf_142 (q := 143) rfl rfl ?_
      refine j_iconst (v := 1) dX8_growsOf_143 (q := 144) rfl (by decide) ?_
      refine j_isub dX8_growsOf_144 (q := 145) rfl ?_
      refine j_ireti dX8_growsOf_145 rfl ?_
      exact ⟨congrArg Value.int (by simp [growF, dayF, d87, d15, *]), rfl⟩
    · skip
      refine j_iload_n dX8_growsOf_146 (q := 147) rfl rfl ?_
      refine j_ireti dX8_growsOf_147 rfl ?_
      exact ⟨congrArg Value.int (by simp [growF, dayF, d87, d15, *]), rfl⟩
  · skip
    refine j_iload_n dX8_growsOf_27 (q := 28) rfl rfl ?_
    refine j_bipush (v := 15) dX8_growsOf_28 (q := 30) rfl (by decide) ?_
    refine j_icmp_ge dX8_growsOf_30 (t := 39) (by decide) (q := 33) rfl (fun c_30 => ?_) (fun c_30 => ?_)
    · skip
      refine j_iload_n dX8_growsOf_39 (q := 40) rfl rfl ?_
      refine j_istore_5_4 dX8_growsOf_40 (q := 42) rfl rfl rfl ?_
      refine j_aload_n dX8_growsOf_42 (q := 43) rfl rfl ?_
      refine j_iload_n dX8_growsOf_43 (q := 44) rfl rfl ?_
      refine j_iconst (v := 0) dX8_growsOf_44 (q := 45) rfl (by decide) ?_
      refine j_callVi2E (M' := M_X8_its) lk_X8_123 mv_X8_its ob_70 (by decide) (Nat.le_of_ble_eq_true rfl) dX8_growsOf_45 (q := 48) rfl (ct_X8_its0 hf) ?_
      refine j_tsw_1_6 dX8_growsOf_48 (td := 146) (t0 := 88) (t1 := 99) (t2 := 146) (t3 := 102) (t4 := 120) (t5 := 142) (by decide) (by decide) (by decide) (by decide) (by decide) (by decide) (by decide) (fun e_48 => ?_) (fun e_48 => ?_) (fun e_48 => ?_) (fun e_48 => ?_) (fun e_48 => ?_) (fun e_48 => ?_) (fun e_48_0 e_48_1 e_48_2 e_48_3 e_48_4 e_48_5 => ?_)
      · skip
        refine j_iload_n dX8_growsOf_88 (q := 89) rfl rfl ?_
        refine j_aload_n dX8_growsOf_89 (q := 90) rfl rfl ?_
        refine j_iload_n dX8_growsOf_90 (q := 91) rfl rfl ?_
        refine j_iconst (v := 3) dX8_growsOf_91 (q := 92) rfl (by decide) ?_
        refine j_callVi2E (M' := M_X8_its) lk_X8_123 mv_X8_its ob_70 (by decide) (Nat.le_of_ble_eq_true rfl) dX8_growsOf_92 (q := 95) rfl (ct_X8_its (k := 3) hf (by decide)) ?_
        refine j_iconst (v := 4) dX8_growsOf_95 (q := 96) rfl (by decide) ?_
        refine j_idiv dX8_growsOf_96 (q := 97) rfl (by decide) ?_
        refine j_iadd dX8_growsOf_97 (q := 98) rfl ?_
        refine j_ireti dX8_growsOf_98 rfl ?_
        exact ⟨congrArg Value.int (by simp [growF, dayF, d87, d15, *]), rfl⟩
      · skip
        refine j_iload dX8_growsOf_99 (q := 101) rfl rfl ?_
        refine j_ireti dX8_growsOf_101 rfl ?_
        exact ⟨congrArg Value.int (by simp [growF, dayF, d87, d15, *]), rfl⟩
      · skip
        refine j_iload_n dX8_growsOf_146 (q := 147) rfl rfl ?_
        refine j_ireti dX8_growsOf_147 rfl ?_
        exact ⟨congrArg Value.int (by simp [growF, dayF, d87, d15, *]), rfl⟩
      · skip
        refine j_iload_n dX8_growsOf_102 (q := 103) rfl rfl ?_
        refine j_aload_n dX8_growsOf_103 (q := 104) rfl rfl ?_
        refine j_iload_n dX8_growsOf_104 (q := 105) rfl rfl ?_
        refine j_iconst (v := 3) dX8_growsOf_105 (q := 106) rfl (by decide) ?_
        refine j_callVi2E (M' := M_X8_its) lk_X8_123 mv_X8_its ob_70 (by decide) (Nat.le_of_ble_eq_true rfl) dX8_growsOf_106 (q := 109) rfl (ct_X8_its (k := 3) hf (by decide)) ?_
        refine j_iconst (v := 4) dX8_growsOf_109 (q := 110) rfl (by decide) ?_
        refine j_idiv dX8_growsOf_110 (q := 111) rfl (by decide) ?_
        refine j_iadd dX8_growsOf_111 (q := 112) rfl ?_
        refine j_aload_n dX8_growsOf_112 (q := 113) rfl rfl ?_
        refine j_iload_n dX8_growsOf_113 (q := 114) rfl rfl ?_
        refine j_iconst (v := 1) dX8_growsOf_114 (q := 115) rfl (by decide) ?_
        refine j_callVi2E (M' := M_X8_its) lk_X8_123 mv_X8_its ob_70 (by decide) (Nat.le_of_ble_eq_true rfl) dX8_growsOf_115 (q := 118) rfl (ct_X8_its (k := 1) hf (by decide)) ?_
        refine j_iadd dX8_growsOf_118 (q := 119) rfl ?_
        refine j_ireti dX8_growsOf_119 rfl ?_
        exact ⟨congrArg Value.int (by simp [growF, dayF, d87, d15, *]), rfl⟩
      · skip
        refine j_aload_n dX8_growsOf_120 (q := 121) rfl rfl ?_
        refine j_getR (r := 71) fs_X8_7 rfl rfl rfl dX8_growsOf_121 (q := 124) rfl ?_
        refine j_iconst (v := 0) dX8_growsOf_124 (q := 125) rfl (by decide) ?_
        refine j_ialdN (k := 0) rfl (by decide) dX8_growsOf_125 (q := 126) rfl ?_
        refine j_bipush (v := 7) dX8_growsOf_126 (q := 128) rfl (by decide) ?_
        refine j_irem dX8_growsOf_128 (q := 129) rfl (by decide) ?_
        refine j_if_ne dX8_growsOf_129 (t := 139) (by decide) (q := 132) rfl (fun c_129 => ?_) (fun c_129 => ?_)
        · skip
          refine j_iload dX8_growsOf_139 (q := 141) rfl rfl ?_
          refine j_ireti dX8_growsOf_141 rfl ?_
          exact ⟨congrArg Value.int (by simp [growF, dayF, d87, d15, *]), rfl⟩
        · skip
          refine j_iload dX8_growsOf_132 (q := 134) rfl rfl ?_
          refine j_iconst (v := 3) dX8_growsOf_134 (q := 135) rfl (by decide) ?_
          refine j_iadd dX8_growsOf_135 (q := 136) rfl ?_
          refine j_goto (q := 141) dX8_growsOf_136 (by decide) ?_
          refine j_ireti dX8_growsOf_141 rfl ?_
          exact ⟨congrArg Value.int (by simp [growF, dayF, d87, d15, *]), rfl⟩
      · skip
        refine j_iload_n dX8_growsOf_142 (q := 143) rfl rfl ?_
        refine j_iconst (v := 1) dX8_growsOf_143 (q := 144) rfl (by decide) ?_
        refine j_isub dX8_growsOf_144 (q := 145) rfl ?_
        refine j_ireti dX8_growsOf_145 rfl ?_
        exact ⟨congrArg Value.int (by simp [growF, dayF, d87, d15, *]), rfl⟩
      · skip
        refine j_iload_n dX8_growsOf_146 (q := 147) rfl rfl ?_
        refine j_ireti dX8_growsOf_147 rfl ?_
        exact ⟨congrArg Value.int (by simp [growF, dayF, d87, d15, *]), rfl⟩
    · skip
      refine j_iconst (v := 2) dX8_growsOf_33 (q := 34) rfl (by decide) ?_
      refine j_iload_n dX8_growsOf_34 (q := 35) rfl rfl ?_
      refine j_imul dX8_growsOf_35 (q := 36) rfl ?_
      refine j_goto (q := 40) dX8_growsOf_36 (by decide) ?_
      refine j_istore_5_4 dX8_growsOf_40 (q := 42) rfl rfl rfl ?_
      refine j_aload_n dX8_growsOf_42 (q := 43) rfl rfl ?_
      refine j_iload_n dX8_growsOf_43 (q := 44) rfl rfl ?_
      refine j_iconst (v := 0) dX8_growsOf_44 (q := 45) rfl (by decide) ?_
      refine j_callVi2E (M' := M_X8_its) lk_X8_123 mv_X8_its ob_70 (by decide) (Nat.le_of_ble_eq_true rfl) dX8_growsOf_45 (q := 48) rfl (ct_X8_its0 hf) ?_
      refine j_tsw_1_6 dX8_growsOf_48 (td := 146) (t0 := 88) (t1 := 99) (t2 := 146) (t3 := 102) (t4 := 120) (t5 := 142) (by decide) (by decide) (by decide) (by decide) (by decide) (by decide) (by decide) (fun e_48 => ?_) (fun e_48 => ?_) (fun e_48 => ?_) (fun e_48 => ?_) (fun e_48 => ?_) (fun e_48 => ?_) (fun e_48_0 e_48_1 e_48_2 e_48_3 e_48_4 e_48_5 => ?_)
      · skip
        refine j_iload_n dX8_growsOf_88 (q := 89) rfl rfl ?_
        refine j_aload_n dX8_growsOf_89 (q := 90) rfl rfl ?_
        refine j_iload_n dX8_growsOf_90 (q := 91) rfl rfl ?_
        refine j_iconst (v := 3) dX8_growsOf_91 (q := 92) rfl (by decide) ?_
        refine j_callVi2E (M' := M_X8_its) lk_X8_123 mv_X8_its ob_70 (by decide) (Nat.le_of_ble_eq_true rfl) dX8_growsOf_92 (q := 95) rfl (ct_X8_its (k := 3) hf (by decide)) ?_
        refine j_iconst (v := 4) dX8_growsOf_95 (q := 96) rfl (by decide) ?_
        refine j_idiv dX8_growsOf_96 (q := 97) rfl (by decide) ?_
        refine j_iadd dX8_growsOf_97 (q := 98) rfl ?_
        refine j_ireti dX8_growsOf_98 rfl ?_
        exact ⟨congrArg Value.int (by simp [growF, dayF, d87, d15, *]), rfl⟩
      · skip
        refine j_iload dX8_growsOf_99 (q := 101) rfl rfl ?_
        refine j_ireti dX8_growsOf_101 rfl ?_
        exact ⟨congrArg Value.int (by simp [growF, dayF, d87, d15, *]), rfl⟩
      · skip
        refine j_iload_n dX8_growsOf_146 (q := 147) rfl rfl ?_
        refine j_ireti dX8_growsOf_147 rfl ?_
        exact ⟨congrArg Value.int (by simp [growF, dayF, d87, d15, *]), rfl⟩
      · skip
        refine j_iload_n dX8_growsOf_102 (q := 103) rfl rfl ?_
        refine j_aload_n dX8_growsOf_103 (q := 104) rfl rfl ?_
        refine j_iload_n dX8_growsOf_104 (q := 105) rfl rfl ?_
        refine j_iconst (v := 3) dX8_growsOf_105 (q := 106) rfl (by decide) ?_
        refine j_callVi2E (M' := M_X8_its) lk_X8_123 mv_X8_its ob_70 (by decide) (Nat.le_of_ble_eq_true rfl) dX8_growsOf_106 (q := 109) rfl (ct_X8_its (k := 3) hf (by decide)) ?_
        refine j_iconst (v := 4) dX8_growsOf_109 (q := 110) rfl (by decide) ?_
        refine j_idiv dX8_growsOf_110 (q := 111) rfl (by decide) ?_
        refine j_iadd dX8_growsOf_111 (q := 112) rfl ?_
        refine j_aload_n dX8_growsOf_112 (q := 113) rfl rfl ?_
        refine j_iload_n dX8_growsOf_113 (q := 114) rfl rfl ?_
        refine j_iconst (v := 1) dX8_growsOf_114 (q := 115) rfl (by decide) ?_
        refine j_callVi2E (M' := M_X8_its) lk_X8_123 mv_X8_its ob_70 (by decide) (Nat.le_of_ble_eq_true rfl) dX8_growsOf_115 (q := 118) rfl (ct_X8_its (k := 1) hf (by decide)) ?_
        refine j_iadd dX8_growsOf_118 (q := 119) rfl ?_
        refine j_ireti dX8_growsOf_119 rfl ?_
        exact ⟨congrArg Value.int (by simp [growF, dayF, d87, d15, *]), rfl⟩
      · skip
        refine j_aload_n dX8_growsOf_120 (q := 121) rfl rfl ?_
        refine j_getR (r := 71) fs_X8_7 rfl rfl rfl dX8_growsOf_121 (q := 124) rfl ?_
        refine j_iconst (v := 0) dX8_growsOf_124 (q := 125) rfl (by decide) ?_
        refine j_ialdN (k := 0) rfl (by decide) dX8_growsOf_125 (q := 126) rfl ?_
        refine j_bipush (v := 7) dX8_growsOf_126 (q := 128) rfl (by decide) ?_
        refine j_irem dX8_growsOf_128 (q := 129) rfl (by decide) ?_
        refine j_if_ne dX8_growsOf_129 (t := 139) (by decide) (q := 132) rfl (fun c_129 => ?_) (fun c_129 => ?_)
        · skip
          refine j_iload dX8_growsOf_139 (q := 141) rfl rfl ?_
          refine j_ireti dX8_growsOf_141 rfl ?_
          exact ⟨congrArg Value.int (by simp [growF, dayF, d87, d15, *]), rfl⟩
        · skip
          refine j_iload dX8_growsOf_132 (q := 134) rfl rfl ?_
          refine j_iconst (v := 3) dX8_growsOf_134 (q := 135) rfl (by decide) ?_
          refine j_iadd dX8_growsOf_135 (q := 136) rfl ?_
          refine j_goto (q := 141) dX8_growsOf_136 (by decide) ?_
          refine j_ireti dX8_growsOf_141 rfl ?_
          exact ⟨congrArg Value.int (by simp [growF, dayF, d87, d15, *]), rfl⟩
      · skip
        refine j_iload_n dX8_growsOf_142 (q := 143) rfl rfl ?_
        refine j_iconst (v := 1) dX8_growsOf_143 (q := 144) rfl (by decide) ?_
        refine j_isub dX8_growsOf_144 (q := 145) rfl ?_
        refine j_ireti dX8_growsOf_145 rfl ?_
        exact ⟨congrArg Value.int (by simp [growF, dayF, d87, d15, *]), rfl⟩
      · skip
        refine j_iload_n dX8_growsOf_146 (q := 147) rfl rfl ?_
        refine j_ireti dX8_growsOf_147 rfl ?_
        exact ⟨congrArg Value.int (by simp [growF, dayF, d87, d15, *]), rfl⟩
theorem ct_X8_paysOf {g : GT} {σ : S_} {f : Nat} (hf : f < 7) : CT g 1 M_X8_paysOf [.ref 70, .int (nI f)] σ (EQ (.int (paysF (σ 71 (10 + 6 * f)) (σ 71 (10 + 6 * f + 3)) (σ 71 (10 + 6 * f + 4) + σ 71 (10 + 6 * f + 2)))) σ) := by
  refine ct_of [.ref 70, .int (nI f), .null] pn_X8_paysOf rfl (Nat.le_of_ble_eq_true rfl) ?_
  refine j_aload_n dX8_paysOf_0 (q := 1) rfl rfl ?_
  refine j_iload_n dX8_paysOf_1 (q := 2) rfl rfl ?_
  refine j_iconst (v := 4) dX8_paysOf_2 (q := 3) rfl (by decide) ?_
  refine j_callVi2E (M' := M_X8_its) lk_X8_123 mv_X8_its ob_70 (by decide) (Nat.le_of_ble_eq_true rfl) dX8_paysOf_3 (q := 6) rfl (ct_X8_its (k := 4) hf (by decide)) ?_
  refine j_aload_n dX8_paysOf_6 (q := 7) rfl rfl ?_
  refine j_iload_n dX8_paysOf_7 (q := 8) rfl rfl ?_
  refine j_iconst (v := 2) dX8_paysOf_8 (q := 9) rfl (by decide) ?_
  refine j_callVi2E (M' := M_X8_its) lk_X8_123 mv_X8_its ob_70 (by decide) (Nat.le_of_ble_eq_true rfl) dX8_paysOf_9 (q := 12) rfl (ct_X8_its (k := 2) hf (by decide)) ?_
  refine j_iadd dX8_paysOf_12 (q := 13) rfl ?_
  refine j_istore_n_3_2 dX8_paysOf_13 (q := 14) rfl rfl rfl ?_
  refine j_aload_n dX8_paysOf_14 (q := 15) rfl rfl ?_
  refine j_iload_n dX8_paysOf_15 (q := 16) rfl rfl ?_
  refine j_iconst (v := 0) dX8_paysOf_16 (q := 17) rfl (by decide) ?_
  refine j_callVi2E (M' := M_X8_its) lk_X8_123 mv_X8_its ob_70 (by decide) (Nat.le_of_ble_eq_true rfl) dX8_paysOf_17 (q := 20) rfl (ct_X8_its0 hf) ?_
  refine j_tsw_2_6 dX8_paysOf_20 (td := 81) (t0 := 56) (t1 := 60) (t2 := 64) (t3 := 68) (t4 := 79) (by decide) (by decide) (by decide) (by decide) (by decide) (by decide) (fun e_20 => ?_) (fun e_20 => ?_) (fun e_20 => ?_) (fun e_20 => ?_) (fun e_20 => ?_) (fun e_20_0 e_20_1 e_20_2 e_20_3 e_20_4 => ?_)
  · skip
    refine j_iload_n dX8_paysOf_56 (q := 57) rfl rfl ?_
    refine j_iconst (v := 2) dX8_paysOf_57 (q := 58) rfl (by decide) ?_
    refine j_idiv dX8_paysOf_58 (q := 59) rfl (by decide) ?_
    refine j_ireti dX8_paysOf_59 rfl ?_
    exact ⟨congrArg Value.int (by simp [paysF, *]), rfl⟩
  · skip
    refine j_iconst (v := 2) dX8_paysOf_60 (q := 61) rfl (by decide) ?_
    refine j_iload_n dX8_paysOf_61 (q := 62) rfl rfl ?_
    refine j_imul dX8_paysOf_62 (q := 63) rfl ?_
    refine j_ireti dX8_paysOf_63 rfl ?_
    exact ⟨congrArg Value.int (by simp [paysF, *]), rfl⟩
  · skip
    refine j_iload_n dX8_paysOf_64 (q := 65) rfl rfl ?_
    refine j_iconst (v := 5) dX8_paysOf_65 (q := 66) rfl (by decide) ?_
    refine j_iadd dX8_paysOf_66 (q := 67) rfl ?_
    refine j_ireti dX8_paysOf_67 rfl ?_
    exact ⟨congrArg Value.int (by simp [paysF, *]), rfl⟩
  · skip
    refine j_iload_n dX8_paysOf_68 (q := 69) rfl rfl ?_
    refine j_iconst (v := 2) dX8_paysOf_69 (q := 70) rfl (by decide) ?_
    refine j_idiv dX8_paysOf_70 (q := 71) rfl (by decide) ?_
    refine j_aload_n dX8_paysOf_71 (q := 72) rfl rfl ?_
    refine j_iload_n dX8_paysOf_72 (q := 73) rfl rfl ?_
    refine j_iconst (v := 3) dX8_paysOf_73 (q := 74) rfl (by decide) ?_
    refine j_callVi2E (M' := M_X8_its) lk_X8_123 mv_X8_its ob_70 (by decide) (Nat.le_of_ble_eq_true rfl) dX8_paysOf_74 (q := 77) rfl (ct_X8_its (k := 3) hf (by decide)) ?_
    refine j_iadd dX8_paysOf_77 (q := 78) rfl ?_
    refine j_ireti dX8_paysOf_78 rfl ?_
    exact ⟨congrArg Value.int (by simp [paysF, *]), rfl⟩
  · skip
    refine j_iconst (v := 0) dX8_paysOf_79 (q := 80) rfl (by decide) ?_
    refine j_ireti dX8_paysOf_80 rfl ?_
    exact ⟨congrArg Value.int (by simp [paysF, *]), rfl⟩
  · skip
    refine j_iload_n dX8_paysOf_81 (q := 82) rfl rfl ?_
    refine j_ireti dX8_paysOf_82 rfl ?_
    exact ⟨congrArg Value.int (by simp [paysF, *]), rfl⟩
theorem ct_X3_joined {g : GT} {σ : S_} {c x y : Int32} : CT g 0 M_X3_joined [.int c, .int x, .int y] σ (EQ (.int (opF c x y)) σ) := by
  refine ct_of [.int c, .int x, .int y] pn_X3_joined rfl (Nat.le_of_ble_eq_true rfl) ?_
  refine j_iload_n dX3_joined_0 (q := 1) rfl rfl ?_
  refine j_lsw_37_38_42_43_45_47_60_61_62_124 dX3_joined_1 (td := 189) (t0 := 177) (t1 := 106) (t2 := 161) (t3 := 153) (t4 := 157) (t5 := 165) (t6 := 120) (t7 := 131) (t8 := 142) (t9 := 92) (by decide) (by decide) (by decide) (by decide) (by decide) (by decide) (by decide) (by decide) (by decide) (by decide) (by decide) (fun e_1 => ?_) (fun e_1 => ?_) (fun e_1 => ?_) (fun e_1 => ?_) (fun e_1 => ?_) (fun e_1 => ?_) (fun e_1 => ?_) (fun e_1 => ?_) (fun e_1 => ?_) (fun e_1 => ?_) (fun e_1_0 e_1_1 e_1_2 e_1_3 e_1_4 e_1_5 e_1_6 e_1_7 e_1_8 e_1_9 => ?_)
  · skip
    refine j_iload_n dX3_joined_177 (q := 178) rfl rfl ?_
    refine j_if_ne dX3_joined_178 (t := 185) (by decide) (q := 181) rfl (fun c_178 => ?_) (fun c_178 => ?_)
    · skip
      refine j_iload_n dX3_joined_185 (q := 186) rfl rfl ?_
      refine j_iload_n dX3_joined_186 (q := 187) rfl rfl ?_
      refine j_irem dX3_joined_187 (q := 188) rfl (by assumption) ?_
      refine j_ireti dX3_joined_188 rfl ?_
      exact ⟨congrArg Value.int (by simp [opF, bI, *]), rfl⟩
    · skip
      refine j_iconst (v := 0) dX3_joined_181 (q := 182) rfl (by decide) ?_
      refine j_goto (q := 188) dX3_joined_182 (by decide) ?_
      refine j_ireti dX3_joined_188 rfl ?_
      exact ⟨congrArg Value.int (by simp [opF, bI, *]), rfl⟩
  · skip
    refine j_iload_n dX3_joined_106 (q := 107) rfl rfl ?_
    refine j_if_eq dX3_joined_107 (t := 118) (by decide) (q := 110) rfl (fun c_107 => ?_) (fun c_107 => ?_)
    · skip
      refine j_iconst (v := 0) dX3_joined_118 (q := 119) rfl (by decide) ?_
      refine j_ireti dX3_joined_119 rfl ?_
      exact ⟨congrArg Value.int (by simp [opF, bI, *]), rfl⟩
    · skip
      refine j_iload_n dX3_joined_110 (q := 111) rfl rfl ?_
      refine j_if_eq dX3_joined_111 (t := 118) (by decide) (q := 114) rfl (fun c_111 => ?_) (fun c_111 => ?_)
      · skip
        refine j_iconst (v := 0) dX3_joined_118 (q := 119) rfl (by decide) ?_
        refine j_ireti dX3_joined_119 rfl ?_
        exact ⟨congrArg Value.int (by simp [opF, bI, *]), rfl⟩
      · skip
        refine j_iconst (v := 1) dX3_joined_114 (q := 115) rfl (by decide) ?_
        refine j_goto (q := 119) dX3_joined_115 (by decide) ?_
        refine j_ireti dX3_joined_119 rfl ?_
        exact ⟨congrArg Value.int (by simp [opF, bI, *]), rfl⟩
  · skip
    refine j_iload_n dX3_joined_161 (q := 162) rfl rfl ?_
    refine j_iload_n dX3_joined_162 (q := 163) rfl rfl ?_
    refine j_imul dX3_joined_163 (q := 164) rfl ?_
    refine j_ireti dX3_joined_164 rfl ?_
    exact ⟨congrArg Value.int (by simp [opF, bI, *]), rfl⟩
  · skip
    refine j_iload_n dX3_joined_153 (q := 154) rfl rfl ?_
    refine j_iload_n dX3_joined_154 (q := 155) rfl rfl ?_
    refine j_iadd dX3_joined_155 (q := 156) rfl ?_
    refine j_ireti dX3_joined_156 rfl ?_
    exact ⟨congrArg Value.int (by simp [opF, bI, *]), rfl⟩
  · skip
    refine j_iload_n dX3_joined_157 (q := 158) rfl rfl ?_
    refine j_iload_n dX3_joined_158 (q := 159) rfl rfl ?_
    refine j_isub dX3_joined_159 (q := 160) rfl ?_
    refine j_ireti dX3_joined_160 rfl ?_
    exact ⟨congrArg Value.int (by simp [opF, bI, *]), rfl⟩
  · skip
    refine j_iload_n dX3_joined_165 (q := 166) rfl rfl ?_
    refine j_if_ne dX3_joined_166 (t := 173) (by decide) (q := 169) rfl (fun c_166 => ?_) (fun c_166 => ?_)
    · skip
      refine j_iload_n dX3_joined_173 (q := 174) rfl rfl ?_
      refine j_iload_n dX3_joined_174 (q := 175) rfl rfl ?_
      refine j_idiv dX3_joined_175 (q := 176) rfl (by assumption) ?_
      refine j_ireti dX3_joined_176 rfl ?_
      exact ⟨congrArg Value.int (by simp [opF, bI, *]), rfl⟩
    · skip
      refine j_iconst (v := 0) dX3_joined_169 (q := 170) rfl (by decide) ?_
      refine j_goto (q := 176) dX3_joined_170 (by decide) ?_
      refine j_ireti dX3_joined_176 rfl ?_
      exact ⟨congrArg Value.int (by simp [opF, bI, *]), rfl⟩
  · skip
    refine j_iload_n dX3_joined_120 (q := 121) rfl rfl ?_
    refine j_iload_n dX3_joined_121 (q := 122) rfl rfl ?_
    refine j_icmp_ge dX3_joined_122 (t := 129) (by decide) (q := 125) rfl (fun c_122 => ?_) (fun c_122 => ?_)
    · skip
      refine j_iconst (v := 0) dX3_joined_129 (q := 130) rfl (by decide) ?_
      refine j_ireti dX3_joined_130 rfl ?_
      exact ⟨congrArg Value.int (by simp [opF, bI, *]), rfl⟩
    · skip
      refine j_iconst (v := 1) dX3_joined_125 (q := 126) rfl (by decide) ?_
      refine j_goto (q := 130) dX3_joined_126 (by decide) ?_
      refine j_ireti dX3_joined_130 rfl ?_
      exact ⟨congrArg Value.int (by simp [opF, bI, *]), rfl⟩
  · skip
    refine j_iload_n dX3_joined_131 (q := 132) rfl rfl ?_
    refine j_iload_n dX3_joined_132 (q := 133) rfl rfl ?_
    refine j_icmp_ne dX3_joined_133 (t := 140) (by decide) (q := 136) rfl (fun c_133 => ?_) (fun c_133 => ?_)
    · skip
      refine j_iconst (v := 0) dX3_joined_140 (q := 141) rfl (by decide) ?_
      refine j_ireti dX3_joined_141 rfl ?_
      exact ⟨congrArg Value.int (by simp [opF, bI, *]), rfl⟩
    · skip
      refine j_iconst (v := 1) dX3_joined_136 (q := 137) rfl (by decide) ?_
      refine j_goto (q := 141) dX3_joined_137 (by decide) ?_
      refine j_ireti dX3_joined_141 rfl ?_
      exact ⟨congrArg Value.int (by simp [opF, bI, *]), rfl⟩
  · skip
    refine j_iload_n dX3_joined_142 (q := 143) rfl rfl ?_
    refine j_iload_n dX3_joined_143 (q := 144) rfl rfl ?_
    refine j_icmp_le dX3_joined_144 (t := 151) (by decide) (q := 147) rfl (fun c_144 => ?_) (fun c_144 => ?_)
    · skip
      refine j_iconst (v := 0) dX3_joined_151 (q := 152) rfl (by decide) ?_
      refine j_ireti dX3_joined_152 rfl ?_
      exact ⟨congrArg Value.int (by simp [opF, bI, *]), rfl⟩
    · skip
      refine j_iconst (v := 1) dX3_joined_147 (q := 148) rfl (by decide) ?_
      refine j_goto (q := 152) dX3_joined_148 (by decide) ?_
      refine j_ireti dX3_joined_152 rfl ?_
      exact ⟨congrArg Value.int (by simp [opF, bI, *]), rfl⟩
  · skip
    refine j_iload_n dX3_joined_92 (q := 93) rfl rfl ?_
    refine j_if_ne dX3_joined_93 (t := 100) (by decide) (q := 96) rfl (fun c_93 => ?_) (fun c_93 => ?_)
    · skip
      refine j_iconst (v := 1) dX3_joined_100 (q := 101) rfl (by decide) ?_
      refine j_goto (q := 105) dX3_joined_101 (by decide) ?_
      refine j_ireti dX3_joined_105 rfl ?_
      exact ⟨congrArg Value.int (by simp [opF, bI, *]), rfl⟩
    · skip
      refine j_iload_n dX3_joined_96 (q := 97) rfl rfl ?_
      refine j_if_eq dX3_joined_97 (t := 104) (by decide) (q := 100) rfl (fun c_97 => ?_) (fun c_97 => ?_)
      · skip
        refine j_iconst (v := 0) dX3_joined_104 (q := 105) rfl (by decide) ?_
        refine j_ireti dX3_joined_105 rfl ?_
        exact ⟨congrArg Value.int (by simp [opF, bI, *]), rfl⟩
      · skip
        refine j_iconst (v := 1) dX3_joined_100 (q := 101) rfl (by decide) ?_
        refine j_goto (q := 105) dX3_joined_101 (by decide) ?_
        refine j_ireti dX3_joined_105 rfl ?_
        exact ⟨congrArg Value.int (by simp [opF, bI, *]), rfl⟩
  · skip
    refine j_iconst (v := 0) dX3_joined_189 (q := 190) rfl (by decide) ?_
    refine j_ireti dX3_joined_190 rfl ?_
    exact ⟨congrArg Value.int (by simp [opF, bI, *]), rfl⟩
theorem ct_X8_joined {g : GT} {σ : S_} {c x y : Int32} (hc : c = 37 ∨ c = 38 ∨ c = 42 ∨ c = 43 ∨ c = 45 ∨ c = 47 ∨ c = 60 ∨ c = 61 ∨ c = 62 ∨ c = 124) : CT g 0 M_X8_joined [.int c, .int x, .int y] σ (EQ (.int (opF c x y)) σ) := by
  refine ct_of [.int c, .int x, .int y] pn_X8_joined rfl (Nat.le_of_ble_eq_true rfl) ?_
  refine j_iload_n dX8_joined_0 (q := 1) rfl rfl ?_
  refine j_tsw_37_62 dX8_joined_1 (td := 218) (t0 := 154) (t1 := 204) (t2 := 218) (t3 := 218) (t4 := 218) (t5 := 128) (t6 := 120) (t7 := 218) (t8 := 124) (t9 := 218) (t10 := 132) (t11 := 218) (t12 := 218) (t13 := 218) (t14 := 218) (t15 := 218) (t16 := 218) (t17 := 218) (t18 := 218) (t19 := 218) (t20 := 218) (t21 := 218) (t22 := 218) (t23 := 171) (t24 := 193) (t25 := 182) (by decide) (by decide) (by decide) (by decide) (by decide) (by decide) (by decide) (by decide) (by decide) (by decide) (by decide) (by decide) (by decide) (by decide) (by decide) (by decide) (by decide) (by decide) (by decide) (by decide) (by decide) (by decide) (by decide) (by decide) (by decide) (by decide) (by decide) (fun e_1 => ?_) (fun e_1 => ?_) (fun e_1 => ?_) (fun e_1 => ?_) (fun e_1 => ?_) (fun e_1 => ?_) (fun e_1 => ?_) (fun e_1 => ?_) (fun e_1 => ?_) (fun e_1 => ?_) (fun e_1 => ?_) (fun e_1 => ?_) (fun e_1 => ?_) (fun e_1 => ?_) (fun e_1 => ?_) (fun e_1 => ?_) (fun e_1 => ?_) (fun e_1 => ?_) (fun e_1 => ?_) (fun e_1 => ?_) (fun e_1 => ?_) (fun e_1 => ?_) (fun e_1 => ?_) (fun e_1 => ?_) (fun e_1 => ?_) (fun e_1 => ?_) (fun e_1_0 e_1_1 e_1_2 e_1_3 e_1_4 e_1_5 e_1_6 e_1_7 e_1_8 e_1_9 e_1_10 e_1_11 e_1_12 e_1_13 e_1_14 e_1_15 e_1_16 e_1_17 e_1_18 e_1_19 e_1_20 e_1_21 e_1_22 e_1_23 e_1_24 e_1_25 => ?_)
  · skip
    refine j_iload_n dX8_joined_154 (q := 155) rfl rfl ?_
    refine j_if_eq dX8_joined_155 (t := 163) (by decide) (q := 158) rfl (fun c_155 => ?_) (fun c_155 => ?_)
    · skip
      refine j_iconst (v := 0) dX8_joined_163 (q := 164) rfl (by decide) ?_
      refine j_goto (q := 170) dX8_joined_164 (by decide) ?_
      refine j_ireti dX8_joined_170 rfl ?_
      exact ⟨congrArg Value.int (by rcases hc with rfl | rfl | rfl | rfl | rfl | rfl | rfl | rfl | rfl | rfl <;> first | (exfalso; simp_all; done) | (simp_all [opF, bI, div_m1, rem_m1]; done) | grind [opF, bI, div_m1, rem_m1]), rfl⟩
    · skip
      refine j_iload_n dX8_joined_158 (q := 159) rfl rfl ?_
      refine j_iconst (v := (-1)) dX8_joined_159 (q := 160) rfl (by decide) ?_
      refine j_icmp_ne dX8_joined_160 (t := 167) (by decide) (q := 163) rfl (fun c_160 => ?_) (fun c_160 => ?_)
      · skip
        refine j_iload_n dX8_joined_167 (q := 168) rfl rfl ?_
        refine j_iload_n dX8_joined_168 (q := 169) rfl rfl ?_
        refine j_irem dX8_joined_169 (q := 170) rfl (by assumption) ?_
        refine j_ireti dX8_joined_170 rfl ?_
        exact ⟨congrArg Value.int (by rcases hc with rfl | rfl | rfl | rfl | rfl | rfl | rfl | rfl | rfl | rfl <;> first | (exfalso; simp_all; done) | (simp_all [opF, bI, div_m1, rem_m1]; done) | grind [opF, bI, div_m1, rem_m1]), rfl⟩
      · skip
        refine j_iconst (v := 0) dX8_joined_163 (q := 164) rfl (by decide) ?_
        refine j_goto (q := 170) dX8_joined_164 (by decide) ?_
        refine j_ireti dX8_joined_170 rfl ?_
        exact ⟨congrArg Value.int (by rcases hc with rfl | rfl | rfl | rfl | rfl | rfl | rfl | rfl | rfl | rfl <;> first | (exfalso; simp_all; done) | (simp_all [opF, bI, div_m1, rem_m1]; done) | grind [opF, bI, div_m1, rem_m1]), rfl⟩
  · skip
    refine j_iload_n dX8_joined_204 (q := 205) rfl rfl ?_
    refine j_if_eq dX8_joined_205 (t := 216) (by decide) (q := 208) rfl (fun c_205 => ?_) (fun c_205 => ?_)
    · skip
      refine j_iconst (v := 0) dX8_joined_216 (q := 217) rfl (by decide) ?_
      refine j_ireti dX8_joined_217 rfl ?_
      exact ⟨congrArg Value.int (by rcases hc with rfl | rfl | rfl | rfl | rfl | rfl | rfl | rfl | rfl | rfl <;> first | (exfalso; simp_all; done) | (simp_all [opF, bI, div_m1, rem_m1]; done) | grind [opF, bI, div_m1, rem_m1]), rfl⟩
    · skip
      refine j_iload_n dX8_joined_208 (q := 209) rfl rfl ?_
      refine j_if_eq dX8_joined_209 (t := 216) (by decide) (q := 212) rfl (fun c_209 => ?_) (fun c_209 => ?_)
      · skip
        refine j_iconst (v := 0) dX8_joined_216 (q := 217) rfl (by decide) ?_
        refine j_ireti dX8_joined_217 rfl ?_
        exact ⟨congrArg Value.int (by rcases hc with rfl | rfl | rfl | rfl | rfl | rfl | rfl | rfl | rfl | rfl <;> first | (exfalso; simp_all; done) | (simp_all [opF, bI, div_m1, rem_m1]; done) | grind [opF, bI, div_m1, rem_m1]), rfl⟩
      · skip
        refine j_iconst (v := 1) dX8_joined_212 (q := 213) rfl (by decide) ?_
        refine j_goto (q := 217) dX8_joined_213 (by decide) ?_
        refine j_ireti dX8_joined_217 rfl ?_
        exact ⟨congrArg Value.int (by rcases hc with rfl | rfl | rfl | rfl | rfl | rfl | rfl | rfl | rfl | rfl <;> first | (exfalso; simp_all; done) | (simp_all [opF, bI, div_m1, rem_m1]; done) | grind [opF, bI, div_m1, rem_m1]), rfl⟩
  · skip
    refine j_iload_n dX8_joined_218 (q := 219) rfl rfl ?_
    refine j_if_ne dX8_joined_219 (t := 226) (by decide) (q := 222) rfl (fun c_219 => ?_) (fun c_219 => ?_)
    · skip
      refine j_iconst (v := 1) dX8_joined_226 (q := 227) rfl (by decide) ?_
      refine j_goto (q := 231) dX8_joined_227 (by decide) ?_
      refine j_ireti dX8_joined_231 rfl ?_
      exact ⟨congrArg Value.int (by rcases hc with rfl | rfl | rfl | rfl | rfl | rfl | rfl | rfl | rfl | rfl <;> first | (exfalso; simp_all; done) | (simp_all [opF, bI, div_m1, rem_m1]; done) | grind [opF, bI, div_m1, rem_m1]), rfl⟩
    · skip
      refine j_iload_n dX8_joined_222 (q := 223) rfl rfl ?_
      refine j_if_eq dX8_joined_223 (t := 230) (by decide) (q := 226) rfl (fun c_223 => ?_) (fun c_223 => ?_)
      · skip
        refine j_iconst (v := 0) dX8_joined_230 (q := 231) rfl (by decide) ?_
        refine j_ireti dX8_joined_231 rfl ?_
        exact ⟨congrArg Value.int (by rcases hc with rfl | rfl | rfl | rfl | rfl | rfl | rfl | rfl | rfl | rfl <;> first | (exfalso; simp_all; done) | (simp_all [opF, bI, div_m1, rem_m1]; done) | grind [opF, bI, div_m1, rem_m1]), rfl⟩
      · skip
        refine j_iconst (v := 1) dX8_joined_226 (q := 227) rfl (by decide) ?_
        refine j_goto (q := 231) dX8_joined_227 (by decide) ?_
        refine j_ireti dX8_joined_231 rfl ?_
        exact ⟨congrArg Value.int (by rcases hc with rfl | rfl | rfl | rfl | rfl | rfl | rfl | rfl | rfl | rfl <;> first | (exfalso; simp_all; done) | (simp_all [opF, bI, div_m1, rem_m1]; done) | grind [opF, bI, div_m1, rem_m1]), rfl⟩
  · skip
    refine j_iload_n dX8_joined_218 (q := 219) rfl rfl ?_
    refine j_if_ne dX8_joined_219 (t := 226) (by decide) (q := 222) rfl (fun c_219 => ?_) (fun c_219 => ?_)
    · skip
      refine j_iconst (v := 1) dX8_joined_226 (q := 227) rfl (by decide) ?_
      refine j_goto (q := 231) dX8_joined_227 (by decide) ?_
      refine j_ireti dX8_joined_231 rfl ?_
      exact ⟨congrArg Value.int (by rcases hc with rfl | rfl | rfl | rfl | rfl | rfl | rfl | rfl | rfl | rfl <;> first | (exfalso; simp_all; done) | (simp_all [opF, bI, div_m1, rem_m1]; done) | grind [opF, bI, div_m1, rem_m1]), rfl⟩
    · skip
      refine j_iload_n dX8_joined_222 (q := 223) rfl rfl ?_
      refine j_if_eq dX8_joined_223 (t := 230) (by decide) (q := 226) rfl (fun c_223 => ?_) (fun c_223 => ?_)
      · skip
        refine j_iconst (v := 0) dX8_joined_230 (q := 231) rfl (by decide) ?_
        refine j_ireti dX8_joined_231 rfl ?_
        exact ⟨congrArg Value.int (by rcases hc with rfl | rfl | rfl | rfl | rfl | rfl | rfl | rfl | rfl | rfl <;> first | (exfalso; simp_all; done) | (simp_all [opF, bI, div_m1, rem_m1]; done) | grind [opF, bI, div_m1, rem_m1]), rfl⟩
      · skip
        refine j_iconst (v := 1) dX8_joined_226 (q := 227) rfl (by decide) ?_
        refine j_goto (q := 231) dX8_joined_227 (by decide) ?_
        refine j_ireti dX8_joined_231 rfl ?_
        exact ⟨congrArg Value.int (by rcases hc with rfl | rfl | rfl | rfl | rfl | rfl | rfl | rfl | rfl | rfl <;> first | (exfalso; simp_all; done) | (simp_all [opF, bI, div_m1, rem_m1]; done) | grind [opF, bI, div_m1, rem_m1]), rfl⟩
  · skip
    refine j_iload_n dX8_joined_218 (q := 219) rfl rfl ?_
    refine j_if_ne dX8_joined_219 (t := 226) (by decide) (q := 222) rfl (fun c_219 => ?_) (fun c_219 => ?_)
    · skip
      refine j_iconst (v := 1) dX8_joined_226 (q := 227) rfl (by decide) ?_
      refine j_goto (q := 231) dX8_joined_227 (by decide) ?_
      refine j_ireti dX8_joined_231 rfl ?_
      exact ⟨congrArg Value.int (by rcases hc with rfl | rfl | rfl | rfl | rfl | rfl | rfl | rfl | rfl | rfl <;> first | (exfalso; simp_all; done) | (simp_all [opF, bI, div_m1, rem_m1]; done) | grind [opF, bI, div_m1, rem_m1]), rfl⟩
    · skip
      refine j_iload_n dX8_joined_222 (q := 223) rfl rfl ?_
      refine j_if_eq dX8_joined_223 (t := 230) (by decide) (q := 226) rfl (fun c_223 => ?_) (fun c_223 => ?_)
      · skip
        refine j_iconst (v := 0) dX8_joined_230 (q := 231) rfl (by decide) ?_
        refine j_ireti dX8_joined_231 rfl ?_
        exact ⟨congrArg Value.int (by rcases hc with rfl | rfl | rfl | rfl | rfl | rfl | rfl | rfl | rfl | rfl <;> first | (exfalso; simp_all; done) | (simp_all [opF, bI, div_m1, rem_m1]; done) | grind [opF, bI, div_m1, rem_m1]), rfl⟩
      · skip
        refine j_iconst (v := 1) dX8_joined_226 (q := 227) rfl (by decide) ?_
        refine j_goto (q := 231) dX8_joined_227 (by decide) ?_
        refine j_ireti dX8_joined_231 rfl ?_
        exact ⟨congrArg Value.int (by rcases hc with rfl | rfl | rfl | rfl | rfl | rfl | rfl | rfl | rfl | rfl <;> first | (exfalso; simp_all; done) | (simp_all [opF, bI, div_m1, rem_m1]; done) | grind [opF, bI, div_m1, rem_m1]), rfl⟩
  · skip
    refine j_iload_n dX8_joined_128 (q := 129) rfl rfl ?_
    refine j_iload_n dX8_joined_129 (q := 130) rfl rfl ?_
    refine j_imul dX8_joined_130 (q := 131) rfl ?_
    refine j_ireti dX8_joined_131 rfl ?_
    exact ⟨congrArg Value.int (by rcases hc with rfl | rfl | rfl | rfl | rfl | rfl | rfl | rfl | rfl | rfl <;> first | (exfalso; simp_all; done) | (simp_all [opF, bI, div_m1, rem_m1]; done) | grind [opF, bI, div_m1, rem_m1]), rfl⟩
  · skip
    refine j_iload_n dX8_joined_120 (q := 121) rfl rfl ?_
    refine j_iload_n dX8_joined_121 (q := 122) rfl rfl ?_
    refine j_iadd dX8_joined_122 (q := 123) rfl ?_
    refine j_ireti dX8_joined_123 rfl ?_
    exact ⟨congrArg Value.int (by rcases hc with rfl | rfl | rfl | rfl | rfl | rfl | rfl | rfl | rfl | rfl <;> first | (exfalso; simp_all; done) | (simp_all [opF, bI, div_m1, rem_m1]; done) | grind [opF, bI, div_m1, rem_m1]), rfl⟩
  · skip
    refine j_iload_n dX8_joined_218 (q := 219) rfl rfl ?_
    refine j_if_ne dX8_joined_219 (t := 226) (by decide) (q := 222) rfl (fun c_219 => ?_) (fun c_219 => ?_)
    · skip
      refine j_iconst (v := 1) dX8_joined_226 (q := 227) rfl (by decide) ?_
      refine j_goto (q := 231) dX8_joined_227 (by decide) ?_
      refine j_ireti dX8_joined_231 rfl ?_
      exact ⟨congrArg Value.int (by rcases hc with rfl | rfl | rfl | rfl | rfl | rfl | rfl | rfl | rfl | rfl <;> first | (exfalso; simp_all; done) | (simp_all [opF, bI, div_m1, rem_m1]; done) | grind [opF, bI, div_m1, rem_m1]), rfl⟩
    · skip
      refine j_iload_n dX8_joined_222 (q := 223) rfl rfl ?_
      refine j_if_eq dX8_joined_223 (t := 230) (by decide) (q := 226) rfl (fun c_223 => ?_) (fun c_223 => ?_)
      · skip
        refine j_iconst (v := 0) dX8_joined_230 (q := 231) rfl (by decide) ?_
        refine j_ireti dX8_joined_231 rfl ?_
        exact ⟨congrArg Value.int (by rcases hc with rfl | rfl | rfl | rfl | rfl | rfl | rfl | rfl | rfl | rfl <;> first | (exfalso; simp_all; done) | (simp_all [opF, bI, div_m1, rem_m1]; done) | grind [opF, bI, div_m1, rem_m1]), rfl⟩
      · skip
        refine j_iconst (v := 1) dX8_joined_226 (q := 227) rfl (by decide) ?_
        refine j_goto (q := 231) dX8_joined_227 (by decide) ?_
        refine j_ireti dX8_joined_231 rfl ?_
        exact ⟨congrArg Value.int (by rcases hc with rfl | rfl | rfl | rfl | rfl | rfl | rfl | rfl | rfl | rfl <;> first | (exfalso; simp_all; done) | (simp_all [opF, bI, div_m1, rem_m1]; done) | grind [opF, bI, div_m1, rem_m1]), rfl⟩
  · skip
    refine j_iload_n dX8_joined_124 (q := 125) rfl rfl ?_
    refine j_iload_n dX8_joined_125 (q := 126) rfl rfl ?_
    refine j_isub dX8_joined_126 (q := 127) rfl ?_
    refine j_ireti dX8_joined_127 rfl ?_
    exact ⟨congrArg Value.int (by rcases hc with rfl | rfl | rfl | rfl | rfl | rfl | rfl | rfl | rfl | rfl <;> first | (exfalso; simp_all; done) | (simp_all [opF, bI, div_m1, rem_m1]; done) | grind [opF, bI, div_m1, rem_m1]), rfl⟩
  · skip
    refine j_iload_n dX8_joined_218 (q := 219) rfl rfl ?_
    refine j_if_ne dX8_joined_219 (t := 226) (by decide) (q := 222) rfl (fun c_219 => ?_) (fun c_219 => ?_)
    · skip
      refine j_iconst (v := 1) dX8_joined_226 (q := 227) rfl (by decide) ?_
      refine j_goto (q := 231) dX8_joined_227 (by decide) ?_
      refine j_ireti dX8_joined_231 rfl ?_
      exact ⟨congrArg Value.int (by rcases hc with rfl | rfl | rfl | rfl | rfl | rfl | rfl | rfl | rfl | rfl <;> first | (exfalso; simp_all; done) | (simp_all [opF, bI, div_m1, rem_m1]; done) | grind [opF, bI, div_m1, rem_m1]), rfl⟩
    · skip
      refine j_iload_n dX8_joined_222 (q := 223) rfl rfl ?_
      refine j_if_eq dX8_joined_223 (t := 230) (by decide) (q := 226) rfl (fun c_223 => ?_) (fun c_223 => ?_)
      · skip
        refine j_iconst (v := 0) dX8_joined_230 (q := 231) rfl (by decide) ?_
        refine j_ireti dX8_joined_231 rfl ?_
        exact ⟨congrArg Value.int (by rcases hc with rfl | rfl | rfl | rfl | rfl | rfl | rfl | rfl | rfl | rfl <;> first | (exfalso; simp_all; done) | (simp_all [opF, bI, div_m1, rem_m1]; done) | grind [opF, bI, div_m1, rem_m1]), rfl⟩
      · skip
        refine j_iconst (v := 1) dX8_joined_226 (q := 227) rfl (by decide) ?_
        refine j_goto (q := 231) dX8_joined_227 (by decide) ?_
        refine j_ireti dX8_joined_231 rfl ?_
        exact ⟨congrArg Value.int (by rcases hc with rfl | rfl | rfl | rfl | rfl | rfl | rfl | rfl | rfl | rfl <;> first | (exfalso; simp_all; done) | (simp_all [opF, bI, div_m1, rem_m1]; done) | grind [opF, bI, div_m1, rem_m1]), rfl⟩
  · skip
    refine j_iload_n dX8_joined_132 (q := 133) rfl rfl ?_
    refine j_if_ne dX8_joined_133 (t := 140) (by decide) (q := 136) rfl (fun c_133 => ?_) (fun c_133 => ?_)
    · skip
      refine j_iload_n dX8_joined_140 (q := 141) rfl rfl ?_
      refine j_iconst (v := (-1)) dX8_joined_141 (q := 142) rfl (by decide) ?_
      refine j_icmp_ne dX8_joined_142 (t := 150) (by decide) (q := 145) rfl (fun c_142 => ?_) (fun c_142 => ?_)
      · skip
        refine j_iload_n dX8_joined_150 (q := 151) rfl rfl ?_
        refine j_iload_n dX8_joined_151 (q := 152) rfl rfl ?_
        refine j_idiv dX8_joined_152 (q := 153) rfl (by assumption) ?_
        refine j_ireti dX8_joined_153 rfl ?_
        exact ⟨congrArg Value.int (by rcases hc with rfl | rfl | rfl | rfl | rfl | rfl | rfl | rfl | rfl | rfl <;> first | (exfalso; simp_all; done) | (simp_all [opF, bI, div_m1, rem_m1]; done) | grind [opF, bI, div_m1, rem_m1]), rfl⟩
      · skip
        refine j_iload_n dX8_joined_145 (q := 146) rfl rfl ?_
        refine j_ineg dX8_joined_146 (q := 147) rfl ?_
        refine j_goto (q := 153) dX8_joined_147 (by decide) ?_
        refine j_ireti dX8_joined_153 rfl ?_
        exact ⟨congrArg Value.int (by rcases hc with rfl | rfl | rfl | rfl | rfl | rfl | rfl | rfl | rfl | rfl <;> first | (exfalso; simp_all; done) | (simp_all [opF, bI, div_m1, rem_m1]; done) | grind [opF, bI, div_m1, rem_m1]), rfl⟩
    · skip
      refine j_iconst (v := 0) dX8_joined_136 (q := 137) rfl (by decide) ?_
      refine j_goto (q := 153) dX8_joined_137 (by decide) ?_
      refine j_ireti dX8_joined_153 rfl ?_
      exact ⟨congrArg Value.int (by rcases hc with rfl | rfl | rfl | rfl | rfl | rfl | rfl | rfl | rfl | rfl <;> first | (exfalso; simp_all; done) | (simp_all [opF, bI, div_m1, rem_m1]; done) | grind [opF, bI, div_m1, rem_m1]), rfl⟩
  · skip
    refine j_iload_n dX8_joined_218 (q := 219) rfl rfl ?_
    refine j_if_ne dX8_joined_219 (t := 226) (by decide) (q := 222) rfl (fun c_219 => ?_) (fun c_219 => ?_)
    · skip
      refine j_iconst (v := 1) dX8_joined_226 (q := 227) rfl (by decide) ?_
      refine j_goto (q := 231) dX8_joined_227 (by decide) ?_
      refine j_ireti dX8_joined_231 rfl ?_
      exact ⟨congrArg Value.int (by rcases hc with rfl | rfl | rfl | rfl | rfl | rfl | rfl | rfl | rfl | rfl <;> first | (exfalso; simp_all; done) | (simp_all [opF, bI, div_m1, rem_m1]; done) | grind [opF, bI, div_m1, rem_m1]), rfl⟩
    · skip
      refine j_iload_n dX8_joined_222 (q := 223) rfl rfl ?_
      refine j_if_eq dX8_joined_223 (t := 230) (by decide) (q := 226) rfl (fun c_223 => ?_) (fun c_223 => ?_)
      · skip
        refine j_iconst (v := 0) dX8_joined_230 (q := 231) rfl (by decide) ?_
        refine j_ireti dX8_joined_231 rfl ?_
        exact ⟨congrArg Value.int (by rcases hc with rfl | rfl | rfl | rfl | rfl | rfl | rfl | rfl | rfl | rfl <;> first | (exfalso; simp_all; done) | (simp_all [opF, bI, div_m1, rem_m1]; done) | grind [opF, bI, div_m1, rem_m1]), rfl⟩
      · skip
        refine j_iconst (v := 1) dX8_joined_226 (q := 227) rfl (by decide) ?_
        refine j_goto (q := 231) dX8_joined_227 (by decide) ?_
        refine j_ireti dX8_joined_231 rfl ?_
        exact ⟨congrArg Value.int (by rcases hc with rfl | rfl | rfl | rfl | rfl | rfl | rfl | rfl | rfl | rfl <;> first | (exfalso; simp_all; done) | (simp_all [opF, bI, div_m1, rem_m1]; done) | grind [opF, bI, div_m1, rem_m1]), rfl⟩
  · skip
    refine j_iload_n dX8_joined_218 (q := 219) rfl rfl ?_
    refine j_if_ne dX8_joined_219 (t := 226) (by decide) (q := 222) rfl (fun c_219 => ?_) (fun c_219 => ?_)
    · skip
      refine j_iconst (v := 1) dX8_joined_226 (q := 227) rfl (by decide) ?_
      refine j_goto (q := 231) dX8_joined_227 (by decide) ?_
      refine j_ireti dX8_joined_231 rfl ?_
      exact ⟨congrArg Value.int (by rcases hc with rfl | rfl | rfl | rfl | rfl | rfl | rfl | rfl | rfl | rfl <;> first | (exfalso; simp_all; done) | (simp_all [opF, bI, div_m1, rem_m1]; done) | grind [opF, bI, div_m1, rem_m1]), rfl⟩
    · skip
      refine j_iload_n dX8_joined_222 (q := 223) rfl rfl ?_
      refine j_if_eq dX8_joined_223 (t := 230) (by decide) (q := 226) rfl (fun c_223 => ?_) (fun c_223 => ?_)
      · skip
        refine j_iconst (v := 0) dX8_joined_230 (q := 231) rfl (by decide) ?_
        refine j_ireti dX8_joined_231 rfl ?_
        exact ⟨congrArg Value.int (by rcases hc with rfl | rfl | rfl | rfl | rfl | rfl | rfl | rfl | rfl | rfl <;> first | (exfalso; simp_all; done) | (simp_all [opF, bI, div_m1, rem_m1]; done) | grind [opF, bI, div_m1, rem_m1]), rfl⟩
      · skip
        refine j_iconst (v := 1) dX8_joined_226 (q := 227) rfl (by decide) ?_
        refine j_goto (q := 231) dX8_joined_227 (by decide) ?_
        refine j_ireti dX8_joined_231 rfl ?_
        exact ⟨congrArg Value.int (by rcases hc with rfl | rfl | rfl | rfl | rfl | rfl | rfl | rfl | rfl | rfl <;> first | (exfalso; simp_all; done) | (simp_all [opF, bI, div_m1, rem_m1]; done) | grind [opF, bI, div_m1, rem_m1]), rfl⟩
  · skip
    refine j_iload_n dX8_joined_218 (q := 219) rfl rfl ?_
    refine j_if_ne dX8_joined_219 (t := 226) (by decide) (q := 222) rfl (fun c_219 => ?_) (fun c_219 => ?_)
    · skip
      refine j_iconst (v := 1) dX8_joined_226 (q := 227) rfl (by decide) ?_
      refine j_goto (q := 231) dX8_joined_227 (by decide) ?_
      refine j_ireti dX8_joined_231 rfl ?_
      exact ⟨congrArg Value.int (by rcases hc with rfl | rfl | rfl | rfl | rfl | rfl | rfl | rfl | rfl | rfl <;> first | (exfalso; simp_all; done) | (simp_all [opF, bI, div_m1, rem_m1]; done) | grind [opF, bI, div_m1, rem_m1]), rfl⟩
    · skip
      refine j_iload_n dX8_joined_222 (q := 223) rfl rfl ?_
      refine j_if_eq dX8_joined_223 (t := 230) (by decide) (q := 226) rfl (fun c_223 => ?_) (fun c_223 => ?_)
      · skip
        refine j_iconst (v := 0) dX8_joined_230 (q := 231) rfl (by decide) ?_
        refine j_ireti dX8_joined_231 rfl ?_
        exact ⟨congrArg Value.int (by rcases hc with rfl | rfl | rfl | rfl | rfl | rfl | rfl | rfl | rfl | rfl <;> first | (exfalso; simp_all; done) | (simp_all [opF, bI, div_m1, rem_m1]; done) | grind [opF, bI, div_m1, rem_m1]), rfl⟩
      · skip
        refine j_iconst (v := 1) dX8_joined_226 (q := 227) rfl (by decide) ?_
        refine j_goto (q := 231) dX8_joined_227 (by decide) ?_
        refine j_ireti dX8_joined_231 rfl ?_
        exact ⟨congrArg Value.int (by rcases hc with rfl | rfl | rfl | rfl | rfl | rfl | rfl | rfl | rfl | rfl <;> first | (exfalso; simp_all; done) | (simp_all [opF, bI, div_m1, rem_m1]; done) | grind [opF, bI, div_m1, rem_m1]), rfl⟩
  · skip
    refine j_iload_n dX8_joined_218 (q := 219) rfl rfl ?_
    refine j_if_ne dX8_joined_219 (t := 226) (by decide) (q := 222) rfl (fun c_219 => ?_) (fun c_219 => ?_)
    · skip
      refine j_iconst (v := 1) dX8_joined_226 (q := 227) rfl (by decide) ?_
      refine j_goto (q := 231) dX8_joined_227 (by decide) ?_
      refine j_ireti dX8_joined_231 rfl ?_
      exact ⟨congrArg Value.int (by rcases hc with rfl | rfl | rfl | rfl | rfl | rfl | rfl | rfl | rfl | rfl <;> first | (exfalso; simp_all; done) | (simp_all [opF, bI, div_m1, rem_m1]; done) | grind [opF, bI, div_m1, rem_m1]), rfl⟩
    · skip
      refine j_iload_n dX8_joined_222 (q := 223) rfl rfl ?_
      refine j_if_eq dX8_joined_223 (t := 230) (by decide) (q := 226) rfl (fun c_223 => ?_) (fun c_223 => ?_)
      · skip
        refine j_iconst (v := 0) dX8_joined_230 (q := 231) rfl (by decide) ?_
        refine j_ireti dX8_joined_231 rfl ?_
        exact ⟨congrArg Value.int (by rcases hc with rfl | rfl | rfl | rfl | rfl | rfl | rfl | rfl | rfl | rfl <;> first | (exfalso; simp_all; done) | (simp_all [opF, bI, div_m1, rem_m1]; done) | grind [opF, bI, div_m1, rem_m1]), rfl⟩
      · skip
        refine j_iconst (v := 1) dX8_joined_226 (q := 227) rfl (by decide) ?_
        refine j_goto (q := 231) dX8_joined_227 (by decide) ?_
        refine j_ireti dX8_joined_231 rfl ?_
        exact ⟨congrArg Value.int (by rcases hc with rfl | rfl | rfl | rfl | rfl | rfl | rfl | rfl | rfl | rfl <;> first | (exfalso; simp_all; done) | (simp_all [opF, bI, div_m1, rem_m1]; done) | grind [opF, bI, div_m1, rem_m1]), rfl⟩
  · skip
    refine j_iload_n dX8_joined_218 (q := 219) rfl rfl ?_
    refine j_if_ne dX8_joined_219 (t := 226) (by decide) (q := 222) rfl (fun c_219 => ?_) (fun c_219 => ?_)
    · skip
      refine j_iconst (v := 1) dX8_joined_226 (q := 227) rfl (by decide) ?_
      refine j_goto (q := 231) dX8_joined_227 (by decide) ?_
      refine j_ireti dX8_joined_231 rfl ?_
      exact ⟨congrArg Value.int (by rcases hc with rfl | rfl | rfl | rfl | rfl | rfl | rfl | rfl | rfl | rfl <;> first | (exfalso; simp_all; done) | (simp_all [opF, bI, div_m1, rem_m1]; done) | grind [opF, bI, div_m1, rem_m1]), rfl⟩
    · skip
      refine j_iload_n dX8_joined_222 (q := 223) rfl rfl ?_
      refine j_if_eq dX8_joined_223 (t := 230) (by decide) (q := 226) rfl (fun c_223 => ?_) (fun c_223 => ?_)
      · skip
        refine j_iconst (v := 0) dX8_joined_230 (q := 231) rfl (by decide) ?_
        refine j_ireti dX8_joined_231 rfl ?_
        exact ⟨congrArg Value.int (by rcases hc with rfl | rfl | rfl | rfl | rfl | rfl | rfl | rfl | rfl | rfl <;> first | (exfalso; simp_all; done) | (simp_all [opF, bI, div_m1, rem_m1]; done) | grind [opF, bI, div_m1, rem_m1]), rfl⟩
      · skip
        refine j_iconst (v := 1) dX8_joined_226 (q := 227) rfl (by decide) ?_
        refine j_goto (q := 231) dX8_joined_227 (by decide) ?_
        refine j_ireti dX8_joined_231 rfl ?_
        exact ⟨congrArg Value.int (by rcases hc with rfl | rfl | rfl | rfl | rfl | rfl | rfl | rfl | rfl | rfl <;> first | (exfalso; simp_all; done) | (simp_all [opF, bI, div_m1, rem_m1]; done) | grind [opF, bI, div_m1, rem_m1]), rfl⟩
  · skip
    refine j_iload_n dX8_joined_218 (q := 219) rfl rfl ?_
    refine j_if_ne dX8_joined_219 (t := 226) (by decide) (q := 222) rfl (fun c_219 => ?_) (fun c_219 => ?_)
    · skip
      refine j_iconst (v := 1) dX8_joined_226 (q := 227) rfl (by decide) ?_
      refine j_goto (q := 231) dX8_joined_227 (by decide) ?_
      refine j_ireti dX8_joined_231 rfl ?_
      exact ⟨congrArg Value.int (by rcases hc with rfl | rfl | rfl | rfl | rfl | rfl | rfl | rfl | rfl | rfl <;> first | (exfalso; simp_all; done) | (simp_all [opF, bI, div_m1, rem_m1]; done) | grind [opF, bI, div_m1, rem_m1]), rfl⟩
    · skip
      refine j_iload_n dX8_joined_222 (q := 223) rfl rfl ?_
      refine j_if_eq dX8_joined_223 (t := 230) (by decide) (q := 226) rfl (fun c_223 => ?_) (fun c_223 => ?_)
      · skip
        refine j_iconst (v := 0) dX8_joined_230 (q := 231) rfl (by decide) ?_
        refine j_ireti dX8_joined_231 rfl ?_
        exact ⟨congrArg Value.int (by rcases hc with rfl | rfl | rfl | rfl | rfl | rfl | rfl | rfl | rfl | rfl <;> first | (exfalso; simp_all; done) | (simp_all [opF, bI, div_m1, rem_m1]; done) | grind [opF, bI, div_m1, rem_m1]), rfl⟩
      · skip
        refine j_iconst (v := 1) dX8_joined_226 (q := 227) rfl (by decide) ?_
        refine j_goto (q := 231) dX8_joined_227 (by decide) ?_
        refine j_ireti dX8_joined_231 rfl ?_
        exact ⟨congrArg Value.int (by rcases hc with rfl | rfl | rfl | rfl | rfl | rfl | rfl | rfl | rfl | rfl <;> first | (exfalso; simp_all; done) | (simp_all [opF, bI, div_m1, rem_m1]; done) | grind [opF, bI, div_m1, rem_m1]), rfl⟩
  · skip
    refine j_iload_n dX8_joined_218 (q := 219) rfl rfl ?_
    refine j_if_ne dX8_joined_219 (t := 226) (by decide) (q := 222) rfl (fun c_219 => ?_) (fun c_219 => ?_)
    · skip
      refine j_iconst (v := 1) dX8_joined_226 (q := 227) rfl (by decide) ?_
      refine j_goto (q := 231) dX8_joined_227 (by decide) ?_
      refine j_ireti dX8_joined_231 rfl ?_
      exact ⟨congrArg Value.int (by rcases hc with rfl | rfl | rfl | rfl | rfl | rfl | rfl | rfl | rfl | rfl <;> first | (exfalso; simp_all; done) | (simp_all [opF, bI, div_m1, rem_m1]; done) | grind [opF, bI, div_m1, rem_m1]), rfl⟩
    · skip
      refine j_iload_n dX8_joined_222 (q := 223) rfl rfl ?_
      refine j_if_eq dX8_joined_223 (t := 230) (by decide) (q := 226) rfl (fun c_223 => ?_) (fun c_223 => ?_)
      · skip
        refine j_iconst (v := 0) dX8_joined_230 (q := 231) rfl (by decide) ?_
        refine j_ireti dX8_joined_231 rfl ?_
        exact ⟨congrArg Value.int (by rcases hc with rfl | rfl | rfl | rfl | rfl | rfl | rfl | rfl | rfl | rfl <;> first | (exfalso; simp_all; done) | (simp_all [opF, bI, div_m1, rem_m1]; done) | grind [opF, bI, div_m1, rem_m1]), rfl⟩
      · skip
        refine j_iconst (v := 1) dX8_joined_226 (q := 227) rfl (by decide) ?_
        refine j_goto (q := 231) dX8_joined_227 (by decide) ?_
        refine j_ireti dX8_joined_231 rfl ?_
        exact ⟨congrArg Value.int (by rcases hc with rfl | rfl | rfl | rfl | rfl | rfl | rfl | rfl | rfl | rfl <;> first | (exfalso; simp_all; done) | (simp_all [opF, bI, div_m1, rem_m1]; done) | grind [opF, bI, div_m1, rem_m1]), rfl⟩
  · skip
    refine j_iload_n dX8_joined_218 (q := 219) rfl rfl ?_
    refine j_if_ne dX8_joined_219 (t := 226) (by decide) (q := 222) rfl (fun c_219 => ?_) (fun c_219 => ?_)
    · skip
      refine j_iconst (v := 1) dX8_joined_226 (q := 227) rfl (by decide) ?_
      refine j_goto (q := 231) dX8_joined_227 (by decide) ?_
      refine j_ireti dX8_joined_231 rfl ?_
      exact ⟨congrArg Value.int (by rcases hc with rfl | rfl | rfl | rfl | rfl | rfl | rfl | rfl | rfl | rfl <;> first | (exfalso; simp_all; done) | (simp_all [opF, bI, div_m1, rem_m1]; done) | grind [opF, bI, div_m1, rem_m1]), rfl⟩
    · skip
      refine j_iload_n dX8_joined_222 (q := 223) rfl rfl ?_
      refine j_if_eq dX8_joined_223 (t := 230) (by decide) (q := 226) rfl (fun c_223 => ?_) (fun c_223 => ?_)
      · skip
        refine j_iconst (v := 0) dX8_joined_230 (q := 231) rfl (by decide) ?_
        refine j_ireti dX8_joined_231 rfl ?_
        exact ⟨congrArg Value.int (by rcases hc with rfl | rfl | rfl | rfl | rfl | rfl | rfl | rfl | rfl | rfl <;> first | (exfalso; simp_all; done) | (simp_all [opF, bI, div_m1, rem_m1]; done) | grind [opF, bI, div_m1, rem_m1]), rfl⟩
      · skip
        refine j_iconst (v := 1) dX8_joined_226 (q := 227) rfl (by decide) ?_
        refine j_goto (q := 231) dX8_joined_227 (by decide) ?_
        refine j_ireti dX8_joined_231 rfl ?_
        exact ⟨congrArg Value.int (by rcases hc with rfl | rfl | rfl | rfl | rfl | rfl | rfl | rfl | rfl | rfl <;> first | (exfalso; simp_all; done) | (simp_all [opF, bI, div_m1, rem_m1]; done) | grind [opF, bI, div_m1, rem_m1]), rfl⟩
  · skip
    refine j_iload_n dX8_joined_218 (q := 219) rfl rfl ?_
    refine j_if_ne dX8_joined_219 (t := 226) (by decide) (q := 222) rfl (fun c_219 => ?_) (fun c_219 => ?_)
    · skip
      refine j_iconst (v := 1) dX8_joined_226 (q := 227) rfl (by decide) ?_
      refine j_goto (q := 231) dX8_joined_227 (by decide) ?_
      refine j_ireti dX8_joined_231 rfl ?_
      exact ⟨congrArg Value.int (by rcases hc with rfl | rfl | rfl | rfl | rfl | rfl | rfl | rfl | rfl | rfl <;> first | (exfalso; simp_all; done) | (simp_all [opF, bI, div_m1, rem_m1]; done) | grind [opF, bI, div_m1, rem_m1]), rfl⟩
    · skip
      refine j_iload_n dX8_joined_222 (q := 223) rfl rfl ?_
      refine j_if_eq dX8_joined_223 (t := 230) (by decide) (q := 226) rfl (fun c_223 => ?_) (fun c_223 => ?_)
      · skip
        refine j_iconst (v := 0) dX8_joined_230 (q := 231) rfl (by decide) ?_
        refine j_ireti dX8_joined_231 rfl ?_
        exact ⟨congrArg Value.int (by rcases hc with rfl | rfl | rfl | rfl | rfl | rfl | rfl | rfl | rfl | rfl <;> first | (exfalso; simp_all; done) | (simp_all [opF, bI, div_m1, rem_m1]; done) | grind [opF, bI, div_m1, rem_m1]), rfl⟩
      · skip
        refine j_iconst (v := 1) dX8_joined_226 (q := 227) rfl (by decide) ?_
        refine j_goto (q := 231) dX8_joined_227 (by decide) ?_
        refine j_ireti dX8_joined_231 rfl ?_
        exact ⟨congrArg Value.int (by rcases hc with rfl | rfl | rfl | rfl | rfl | rfl | rfl | rfl | rfl | rfl <;> first | (exfalso; simp_all; done) | (simp_all [opF, bI, div_m1, rem_m1]; done) | grind [opF, bI, div_m1, rem_m1]), rfl⟩
  · skip
    refine j_iload_n dX8_joined_218 (q := 219) rfl rfl ?_
    refine j_if_ne dX8_joined_219 (t := 226) (by decide) (q := 222) rfl (fun c_219 => ?_) (fun c_219 => ?_)
    · skip
      refine j_iconst (v := 1) dX8_joined_226 (q := 227) rfl (by decide) ?_
      refine j_goto (q := 231) dX8_joined_227 (by decide) ?_
      refine j_ireti dX8_joined_231 rfl ?_
      exact ⟨congrArg Value.int (by rcases hc with rfl | rfl | rfl | rfl | rfl | rfl | rfl | rfl | rfl | rfl <;> first | (exfalso; simp_all; done) | (simp_all [opF, bI, div_m1, rem_m1]; done) | grind [opF, bI, div_m1, rem_m1]), rfl⟩
    · skip
      refine j_iload_n dX8_joined_222 (q := 223) rfl rfl ?_
      refine j_if_eq dX8_joined_223 (t := 230) (by decide) (q := 226) rfl (fun c_223 => ?_) (fun c_223 => ?_)
      · skip
        refine j_iconst (v := 0) dX8_joined_230 (q := 231) rfl (by decide) ?_
        refine j_ireti dX8_joined_231 rfl ?_
        exact ⟨congrArg Value.int (by rcases hc with rfl | rfl | rfl | rfl | rfl | rfl | rfl | rfl | rfl | rfl <;> first | (exfalso; simp_all; done) | (simp_all [opF, bI, div_m1, rem_m1]; done) | grind [opF, bI, div_m1, rem_m1]), rfl⟩
      · skip
        refine j_iconst (v := 1) dX8_joined_226 (q := 227) rfl (by decide) ?_
        refine j_goto (q := 231) dX8_joined_227 (by decide) ?_
        refine j_ireti dX8_joined_231 rfl ?_
        exact ⟨congrArg Value.int (by rcases hc with rfl | rfl | rfl | rfl | rfl | rfl | rfl | rfl | rfl | rfl <;> first | (exfalso; simp_all; done) | (simp_all [opF, bI, div_m1, rem_m1]; done) | grind [opF, bI, div_m1, rem_m1]), rfl⟩
  · skip
    refine j_iload_n dX8_joined_218 (q := 219) rfl rfl ?_
    refine j_if_ne dX8_joined_219 (t := 226) (by decide) (q := 222) rfl (fun c_219 => ?_) (fun c_219 => ?_)
    · skip
      refine j_iconst (v := 1) dX8_joined_226 (q := 227) rfl (by decide) ?_
      refine j_goto (q := 231) dX8_joined_227 (by decide) ?_
      refine j_ireti dX8_joined_231 rfl ?_
      exact ⟨congrArg Value.int (by rcases hc with rfl | rfl | rfl | rfl | rfl | rfl | rfl | rfl | rfl | rfl <;> first | (exfalso; simp_all; done) | (simp_all [opF, bI, div_m1, rem_m1]; done) | grind [opF, bI, div_m1, rem_m1]), rfl⟩
    · skip
      refine j_iload_n dX8_joined_222 (q := 223) rfl rfl ?_
      refine j_if_eq dX8_joined_223 (t := 230) (by decide) (q := 226) rfl (fun c_223 => ?_) (fun c_223 => ?_)
      · skip
        refine j_iconst (v := 0) dX8_joined_230 (q := 231) rfl (by decide) ?_
        refine j_ireti dX8_joined_231 rfl ?_
        exact ⟨congrArg Value.int (by rcases hc with rfl | rfl | rfl | rfl | rfl | rfl | rfl | rfl | rfl | rfl <;> first | (exfalso; simp_all; done) | (simp_all [opF, bI, div_m1, rem_m1]; done) | grind [opF, bI, div_m1, rem_m1]), rfl⟩
      · skip
        refine j_iconst (v := 1) dX8_joined_226 (q := 227) rfl (by decide) ?_
        refine j_goto (q := 231) dX8_joined_227 (by decide) ?_
        refine j_ireti dX8_joined_231 rfl ?_
        exact ⟨congrArg Value.int (by rcases hc with rfl | rfl | rfl | rfl | rfl | rfl | rfl | rfl | rfl | rfl <;> first | (exfalso; simp_all; done) | (simp_all [opF, bI, div_m1, rem_m1]; done) | grind [opF, bI, div_m1, rem_m1]), rfl⟩
  · skip
    refine j_iload_n dX8_joined_218 (q := 219) rfl rfl ?_
    refine j_if_ne dX8_joined_219 (t := 226) (by decide) (q := 222) rfl (fun c_219 => ?_) (fun c_219 => ?_)
    · skip
      refine j_iconst (v := 1) dX8_joined_226 (q := 227) rfl (by decide) ?_
      refine j_goto (q := 231) dX8_joined_227 (by decide) ?_
      refine j_ireti dX8_joined_231 rfl ?_
      exact ⟨congrArg Value.int (by rcases hc with rfl | rfl | rfl | rfl | rfl | rfl | rfl | rfl | rfl | rfl <;> first | (exfalso; simp_all; done) | (simp_all [opF, bI, div_m1, rem_m1]; done) | grind [opF, bI, div_m1, rem_m1]), rfl⟩
    · skip
      refine j_iload_n dX8_joined_222 (q := 223) rfl rfl ?_
      refine j_if_eq dX8_joined_223 (t := 230) (by decide) (q := 226) rfl (fun c_223 => ?_) (fun c_223 => ?_)
      · skip
        refine j_iconst (v := 0) dX8_joined_230 (q := 231) rfl (by decide) ?_
        refine j_ireti dX8_joined_231 rfl ?_
        exact ⟨congrArg Value.int (by rcases hc with rfl | rfl | rfl | rfl | rfl | rfl | rfl | rfl | rfl | rfl <;> first | (exfalso; simp_all; done) | (simp_all [opF, bI, div_m1, rem_m1]; done) | grind [opF, bI, div_m1, rem_m1]), rfl⟩
      · skip
        refine j_iconst (v := 1) dX8_joined_226 (q := 227) rfl (by decide) ?_
        refine j_goto (q := 231) dX8_joined_227 (by decide) ?_
        refine j_ireti dX8_joined_231 rfl ?_
        exact ⟨congrArg Value.int (by rcases hc with rfl | rfl | rfl | rfl | rfl | rfl | rfl | rfl | rfl | rfl <;> first | (exfalso; simp_all; done) | (simp_all [opF, bI, div_m1, rem_m1]; done) | grind [opF, bI, div_m1, rem_m1]), rfl⟩
  · skip
    refine j_iload_n dX8_joined_171 (q := 172) rfl rfl ?_
    refine j_iload_n dX8_joined_172 (q := 173) rfl rfl ?_
    refine j_icmp_ge dX8_joined_173 (t := 180) (by decide) (q := 176) rfl (fun c_173 => ?_) (fun c_173 => ?_)
    · skip
      refine j_iconst (v := 0) dX8_joined_180 (q := 181) rfl (by decide) ?_
      refine j_ireti dX8_joined_181 rfl ?_
      exact ⟨congrArg Value.int (by rcases hc with rfl | rfl | rfl | rfl | rfl | rfl | rfl | rfl | rfl | rfl <;> first | (exfalso; simp_all; done) | (simp_all [opF, bI, div_m1, rem_m1]; done) | grind [opF, bI, div_m1, rem_m1]), rfl⟩
    · skip
      refine j_iconst (v := 1) dX8_joined_176 (q := 177) rfl (by decide) ?_
      refine j_goto (q := 181) dX8_joined_177 (by decide) ?_
      refine j_ireti dX8_joined_181 rfl ?_
      exact ⟨congrArg Value.int (by rcases hc with rfl | rfl | rfl | rfl | rfl | rfl | rfl | rfl | rfl | rfl <;> first | (exfalso; simp_all; done) | (simp_all [opF, bI, div_m1, rem_m1]; done) | grind [opF, bI, div_m1, rem_m1]), rfl⟩
  · skip
    refine j_iload_n dX8_joined_193 (q := 194) rfl rfl ?_
    refine j_iload_n dX8_joined_194 (q := 195) rfl rfl ?_
    refine j_icmp_ne dX8_joined_195 (t := 202) (by decide) (q := 198) rfl (fun c_195 => ?_) (fun c_195 => ?_)
    · skip
      refine j_iconst (v := 0) dX8_joined_202 (q := 203) rfl (by decide) ?_
      refine j_ireti dX8_joined_203 rfl ?_
      exact ⟨congrArg Value.int (by rcases hc with rfl | rfl | rfl | rfl | rfl | rfl | rfl | rfl | rfl | rfl <;> first | (exfalso; simp_all; done) | (simp_all [opF, bI, div_m1, rem_m1]; done) | grind [opF, bI, div_m1, rem_m1]), rfl⟩
    · skip
      refine j_iconst (v := 1) dX8_joined_198 (q := 199) rfl (by decide) ?_
      refine j_goto (q := 203) dX8_joined_199 (by decide) ?_
      refine j_ireti dX8_joined_203 rfl ?_
      exact ⟨congrArg Value.int (by rcases hc with rfl | rfl | rfl | rfl | rfl | rfl | rfl | rfl | rfl | rfl <;> first | (exfalso; simp_all; done) | (simp_all [opF, bI, div_m1, rem_m1]; done) | grind [opF, bI, div_m1, rem_m1]), rfl⟩
  · skip
    refine j_iload_n dX8_joined_182 (q := 183) rfl rfl ?_
    refine j_iload_n dX8_joined_183 (q := 184) rfl rfl ?_
    refine j_icmp_le dX8_joined_184 (t := 191) (by decide) (q := 187) rfl (fun c_184 => ?_) (fun c_184 => ?_)
    · skip
      refine j_iconst (v := 0) dX8_joined_191 (q := 192) rfl (by decide) ?_
      refine j_ireti dX8_joined_192 rfl ?_
      exact ⟨congrArg Value.int (by rcases hc with rfl | rfl | rfl | rfl | rfl | rfl | rfl | rfl | rfl | rfl <;> first | (exfalso; simp_all; done) | (simp_all [opF, bI, div_m1, rem_m1]; done) | grind [opF, bI, div_m1, rem_m1]), rfl⟩
    · skip
      refine j_iconst (v := 1) dX8_joined_187 (q := 188) rfl (by decide) ?_
      refine j_goto (q := 192) dX8_joined_188 (by decide) ?_
      refine j_ireti dX8_joined_192 rfl ?_
      exact ⟨congrArg Value.int (by rcases hc with rfl | rfl | rfl | rfl | rfl | rfl | rfl | rfl | rfl | rfl <;> first | (exfalso; simp_all; done) | (simp_all [opF, bI, div_m1, rem_m1]; done) | grind [opF, bI, div_m1, rem_m1]), rfl⟩
  · skip
    refine j_iload_n dX8_joined_218 (q := 219) rfl rfl ?_
    refine j_if_ne dX8_joined_219 (t := 226) (by decide) (q := 222) rfl (fun c_219 => ?_) (fun c_219 => ?_)
    · skip
      refine j_iconst (v := 1) dX8_joined_226 (q := 227) rfl (by decide) ?_
      refine j_goto (q := 231) dX8_joined_227 (by decide) ?_
      refine j_ireti dX8_joined_231 rfl ?_
      exact ⟨congrArg Value.int (by rcases hc with rfl | rfl | rfl | rfl | rfl | rfl | rfl | rfl | rfl | rfl <;> first | (exfalso; simp_all; done) | (simp_all [opF, bI, div_m1, rem_m1]; done) | grind [opF, bI, div_m1, rem_m1]), rfl⟩
    · skip
      refine j_iload_n dX8_joined_222 (q := 223) rfl rfl ?_
      refine j_if_eq dX8_joined_223 (t := 230) (by decide) (q := 226) rfl (fun c_223 => ?_) (fun c_223 => ?_)
      · skip
        refine j_iconst (v := 0) dX8_joined_230 (q := 231) rfl (by decide) ?_
        refine j_ireti dX8_joined_231 rfl ?_
        exact ⟨congrArg Value.int (by rcases hc with rfl | rfl | rfl | rfl | rfl | rfl | rfl | rfl | rfl | rfl <;> first | (exfalso; simp_all; done) | (simp_all [opF, bI, div_m1, rem_m1]; done) | grind [opF, bI, div_m1, rem_m1]), rfl⟩
      · skip
        refine j_iconst (v := 1) dX8_joined_226 (q := 227) rfl (by decide) ?_
        refine j_goto (q := 231) dX8_joined_227 (by decide) ?_
        refine j_ireti dX8_joined_231 rfl ?_
        exact ⟨congrArg Value.int (by rcases hc with rfl | rfl | rfl | rfl | rfl | rfl | rfl | rfl | rfl | rfl <;> first | (exfalso; simp_all; done) | (simp_all [opF, bI, div_m1, rem_m1]; done) | grind [opF, bI, div_m1, rem_m1]), rfl⟩
def nmF (a b c v : Int32) : Int32 := if v = 0 then a else if v = 1 then b else c
theorem ct_X3_named {g : GT} {σ : S_} {v a b c : Int32} : CT g 0 M_X3_named [.int v, .int a, .int b, .int c] σ (EQ (.int (nmF a b c v)) σ) := by
  refine ct_of [.int v, .int a, .int b, .int c] pn_X3_named rfl (Nat.le_of_ble_eq_true rfl) ?_
  refine j_iload_n dX3_named_0 (q := 1) rfl rfl ?_
  refine j_if_ne dX3_named_1 (t := 8) (by decide) (q := 4) rfl (fun c_1 => ?_) (fun c_1 => ?_)
  · skip
    refine j_iload_n dX3_named_8 (q := 9) rfl rfl ?_
    refine j_iconst (v := 1) dX3_named_9 (q := 10) rfl (by decide) ?_
    refine j_icmp_ne dX3_named_10 (t := 17) (by decide) (q := 13) rfl (fun c_10 => ?_) (fun c_10 => ?_)
    · skip
      refine j_iload_n dX3_named_17 (q := 18) rfl rfl ?_
      refine j_ireti dX3_named_18 rfl ?_
      exact ⟨congrArg Value.int (by simp [nmF, *]), rfl⟩
    · skip
      refine j_iload_n dX3_named_13 (q := 14) rfl rfl ?_
      refine j_goto (q := 18) dX3_named_14 (by decide) ?_
      refine j_ireti dX3_named_18 rfl ?_
      exact ⟨congrArg Value.int (by simp [nmF, *]), rfl⟩
  · skip
    refine j_iload_n dX3_named_4 (q := 5) rfl rfl ?_
    refine j_goto (q := 18) dX3_named_5 (by decide) ?_
    refine j_ireti dX3_named_18 rfl ?_
    exact ⟨congrArg Value.int (by simp [nmF, *]), rfl⟩
/-- the cells of a TEXT of the class stand at t: itself, signs, values, open -/
def TX (t : Nat) : Prop := t = 23 ∨ t = 27 ∨ t = 46 ∨ t = 50 ∨ t = 56
theorem TX.o {t : Nat} (h : TX t) : tC[t]? = some (3, 3) := by rcases h with rfl | rfl | rfl | rfl | rfl <;> rfl
theorem TX.a1 {t : Nat} (h : TX t) : tC[t + 1]? = some (0, 60) := by rcases h with rfl | rfl | rfl | rfl | rfl <;> rfl
theorem TX.a2 {t : Nat} (h : TX t) : tC[t + 2]? = some (0, 60) := by rcases h with rfl | rfl | rfl | rfl | rfl <;> rfl
theorem TX.a3 {t : Nat} (h : TX t) : tC[t + 3]? = some (0, 60) := by rcases h with rfl | rfl | rfl | rfl | rfl <;> rfl
theorem TX.r0 {t : Nat} (h : TX t) : rf t 0 = t + 1 := by rcases h with rfl | rfl | rfl | rfl | rfl <;> rfl
theorem TX.r1 {t : Nat} (h : TX t) : rf t 1 = t + 2 := by rcases h with rfl | rfl | rfl | rfl | rfl <;> rfl
theorem TX.r2 {t : Nat} (h : TX t) : rf t 2 = t + 3 := by rcases h with rfl | rfl | rfl | rfl | rfl <;> rfl
theorem ct_X3_clear {g : GT} {σ : S_} {t : Nat} (ht : TX t) : CT g 0 M_X3_clear [.ref t] σ (EQ .null (up σ t 3 0)) := by
  refine ct_of [.ref t] pn_X3_clear rfl (Nat.le_of_ble_eq_true rfl) ?_
  refine j_aload_n dX3_clear_0 (q := 1) rfl rfl ?_
  refine j_iconst (v := 0) dX3_clear_1 (q := 2) rfl (by decide) ?_
  refine j_putI fs_X3_21 ht.o rfl fp_3_3 dX3_clear_2 (q := 5) rfl ?_
  refine j_vret dX3_clear_5 rfl ?_
  exact ⟨rfl, rfl⟩
theorem ct_X3_isThere {g : GT} {σ : S_} {t : Nat} (ht : TX t) : CT g 0 M_X3_isThere [.ref t] σ (EQ (.int (bI (0 < σ t 3))) σ) := by
  refine ct_of [.ref t] pn_X3_isThere rfl (Nat.le_of_ble_eq_true rfl) ?_
  refine j_aload_n dX3_isThere_0 (q := 1) rfl rfl ?_
  refine j_getI fs_X3_21 ht.o rfl dX3_isThere_1 (q := 4) rfl ?_
  refine j_if_le dX3_isThere_4 (t := 11) (by decide) (q := 7) rfl (fun c_4 => ?_) (fun c_4 => ?_)
  · skip
    refine j_iconst (v := 0) dX3_isThere_11 (q := 12) rfl (by decide) ?_
    refine j_iretz dX3_isThere_12 rfl (by decide) ?_
    exact ⟨congrArg Value.int (by unfold bI; grind), rfl⟩
  · skip
    refine j_iconst (v := 1) dX3_isThere_7 (q := 8) rfl (by decide) ?_
    refine j_goto (q := 12) dX3_isThere_8 (by decide) ?_
    refine j_iretz dX3_isThere_12 rfl (by decide) ?_
    exact ⟨congrArg Value.int (by unfold bI; grind), rfl⟩
theorem ct_X3_add {g : GT} {σ : S_} {t n : Nat} {s v : Int32} (ht : TX t) (hn : n < 60) (e : σ t 3 = nI n) : CT g 0 M_X3_add [.ref t, .int s, .int v] σ (EQ .null (up (up (up σ (t + 1) n s) (t + 2) n v) t 3 (nI n + 1))) := by
  refine ct_of [.ref t, .int s, .int v] pn_X3_add rfl (Nat.le_of_ble_eq_true rfl) ?_
  refine j_aload_n dX3_add_0 (q := 1) rfl rfl ?_
  refine j_getIV fs_X3_21 ht.o rfl e dX3_add_1 (q := 4) rfl ?_
  refine j_bipush (v := 60) dX3_add_4 (q := 6) rfl (by decide) ?_
  refine j_icmp_geN (b := 60) (by omega) (by omega) dX3_add_6 (t := 39) (by decide) (q := 9) rfl (fun c_6 => ?_) (fun c_6 => ?_)
  · skip
    omega
  · skip
    refine j_aload_n dX3_add_9 (q := 10) rfl rfl ?_
    refine j_getR (r := (t + 1)) fs_X3_9 ht.o rfl ht.r0 dX3_add_10 (q := 13) rfl ?_
    refine j_aload_n dX3_add_13 (q := 14) rfl rfl ?_
    refine j_getIV fs_X3_21 ht.o rfl e dX3_add_14 (q := 17) rfl ?_
    refine j_iload_n dX3_add_17 (q := 18) rfl rfl ?_
    refine j_iastN ht.a1 (by omega) dX3_add_18 (q := 19) rfl ?_
    refine j_aload_n dX3_add_19 (q := 20) rfl rfl ?_
    refine j_getR (r := (t + 2)) fs_X3_15 ht.o rfl ht.r1 dX3_add_20 (q := 23) rfl ?_
    refine j_aload_n dX3_add_23 (q := 24) rfl rfl ?_
    refine j_getIV fs_X3_21 ht.o rfl (show (up σ (t + 1) n s) t 3 = nI n by rw [up_nc (by omega), e]) dX3_add_24 (q := 27) rfl ?_
    refine j_iload_n dX3_add_27 (q := 28) rfl rfl ?_
    refine j_iastN ht.a2 (by omega) dX3_add_28 (q := 29) rfl ?_
    refine j_aload_n dX3_add_29 (q := 30) rfl rfl ?_
    refine j_dup dX3_add_30 (q := 31) rfl rfl ?_
    refine j_getIV fs_X3_21 ht.o rfl (show (up (up σ (t + 1) n s) (t + 2) n v) t 3 = nI n by rw [up_nc (by omega), up_nc (by omega), e]) dX3_add_31 (q := 34) rfl ?_
    refine j_iconst (v := 1) dX3_add_34 (q := 35) rfl (by decide) ?_
    refine j_iadd dX3_add_35 (q := 36) rfl ?_
    refine j_putI fs_X3_21 ht.o rfl fp_3_3 dX3_add_36 (q := 39) rfl ?_
    refine j_vret dX3_add_39 rfl ?_
    exact ⟨rfl, rfl⟩
theorem cpy_all {f h : Nat → Int32} {n k : Nat} (hk : k < n) : va_cpy f h (0 : Int32).toNatClampNeg (0 : Int32).toNatClampNeg (nI n).toNatClampNeg k = va_cpy f h 0 0 (nI n).toNatClampNeg k := rfl
/-- TEXT t holds what TEXT s held -/
def txcp (σ : S_) (t s : Nat) : S_ := up (upR (upR σ (t + 1) (va_cpy (σ (s + 1)) (σ (t + 1)) 0 0 60)) (t + 2) (va_cpy ((upR σ (t + 1) (va_cpy (σ (s + 1)) (σ (t + 1)) 0 0 60)) (s + 2)) ((upR σ (t + 1) (va_cpy (σ (s + 1)) (σ (t + 1)) 0 0 60)) (t + 2)) 0 0 60)) t 3 ((upR (upR σ (t + 1) (va_cpy (σ (s + 1)) (σ (t + 1)) 0 0 60)) (t + 2) (va_cpy ((upR σ (t + 1) (va_cpy (σ (s + 1)) (σ (t + 1)) 0 0 60)) (s + 2)) ((upR σ (t + 1) (va_cpy (σ (s + 1)) (σ (t + 1)) 0 0 60)) (t + 2)) 0 0 60)) s 3)
theorem ct_X3_copyFrom {g : GT} {σ : S_} {t s : Nat} (ht : TX t) (hs : TX s) : CT g 2 M_X3_copyFrom [.ref t, .ref s] σ (EQ .null (txcp σ t s)) := by
  refine ct_of [.ref t, .ref s] pn_X3_copyFrom rfl (Nat.le_of_ble_eq_true rfl) ?_
  refine j_aload_n dX3_copyFrom_0 (q := 1) rfl rfl ?_
  refine j_getR (r := (s + 1)) fs_X3_9 hs.o rfl hs.r0 dX3_copyFrom_1 (q := 4) rfl ?_
  refine j_iconst (v := 0) dX3_copyFrom_4 (q := 5) rfl (by decide) ?_
  refine j_aload_n dX3_copyFrom_5 (q := 6) rfl rfl ?_
  refine j_getR (r := (t + 1)) fs_X3_9 ht.o rfl ht.r0 dX3_copyFrom_6 (q := 9) rfl ?_
  refine j_iconst (v := 0) dX3_copyFrom_9 (q := 10) rfl (by decide) ?_
  refine j_aload_n dX3_copyFrom_10 (q := 11) rfl rfl ?_
  refine j_getR (r := (t + 1)) fs_X3_9 ht.o rfl ht.r0 dX3_copyFrom_11 (q := 14) rfl ?_
  refine j_alen (.inl ht.a1) dX3_copyFrom_14 (q := 15) rfl ?_
  refine j_copyI hs.a1 ht.a1 lk_X3_25 ac_n ac_s ac_i (by decide) (Nat.le_of_ble_eq_true rfl) (by decide) (by decide) (by decide) (by decide) (by decide) dX3_copyFrom_15 (q := 18) rfl ?_
  refine j_aload_n dX3_copyFrom_18 (q := 19) rfl rfl ?_
  refine j_getR (r := (s + 2)) fs_X3_15 hs.o rfl hs.r1 dX3_copyFrom_19 (q := 22) rfl ?_
  refine j_iconst (v := 0) dX3_copyFrom_22 (q := 23) rfl (by decide) ?_
  refine j_aload_n dX3_copyFrom_23 (q := 24) rfl rfl ?_
  refine j_getR (r := (t + 2)) fs_X3_15 ht.o rfl ht.r1 dX3_copyFrom_24 (q := 27) rfl ?_
  refine j_iconst (v := 0) dX3_copyFrom_27 (q := 28) rfl (by decide) ?_
  refine j_aload_n dX3_copyFrom_28 (q := 29) rfl rfl ?_
  refine j_getR (r := (t + 2)) fs_X3_15 ht.o rfl ht.r1 dX3_copyFrom_29 (q := 32) rfl ?_
  refine j_alen (.inl ht.a2) dX3_copyFrom_32 (q := 33) rfl ?_
  refine j_copyI hs.a2 ht.a2 lk_X3_25 ac_n ac_s ac_i (by decide) (Nat.le_of_ble_eq_true rfl) (by decide) (by decide) (by decide) (by decide) (by decide) dX3_copyFrom_33 (q := 36) rfl ?_
  refine j_aload_n dX3_copyFrom_36 (q := 37) rfl rfl ?_
  refine j_aload_n dX3_copyFrom_37 (q := 38) rfl rfl ?_
  refine j_getI fs_X3_21 hs.o rfl dX3_copyFrom_38 (q := 41) rfl ?_
  refine j_putI fs_X3_21 ht.o rfl fp_3_3 dX3_copyFrom_41 (q := 44) rfl ?_
  refine j_vret dX3_copyFrom_44 rfl ?_
  exact ⟨rfl, rfl⟩
def isOp (c : Int32) : Prop := c = 37 ∨ c = 38 ∨ c = 42 ∨ c = 43 ∨ c = 45 ∨ c = 47 ∨ c = 60 ∨ c = 61 ∨ c = 62 ∨ c = 124
/-- k more signs of a TEXT from place i on, n numbers open in f -/
def runT (sg vl : Nat → Int32) (nm : Int32 → Int32) : Nat → Nat → Nat → (Nat → Int32) → Int32
  | 0, _, _, f => f 0
  | k + 1, i, n, f => if sg i = 1 then runT sg vl nm k (i + 1) (n + 1) (upd f n (vl i)) else if sg i = 2 then runT sg vl nm k (i + 1) (n + 1) (upd f n (nm (vl i))) else if sg i = 33 then runT sg vl nm k (i + 1) n (upd f (n - 1) (bI (f (n - 1) = 0))) else runT sg vl nm k (i + 1) (n - 1) (upd f (n - 2) (opF (sg i) (f (n - 2)) (f (n - 1))))
def wfT (sg vl : Nat → Int32) : Nat → Nat → Nat → Prop
  | 0, _, n => n = 1
  | k + 1, i, n => if sg i = 1 then wfT sg vl k (i + 1) (n + 1) else if sg i = 2 then (vl i = 0 ∨ vl i = 1 ∨ vl i = 2) ∧ wfT sg vl k (i + 1) (n + 1) else if sg i = 33 then 1 ≤ n ∧ wfT sg vl k (i + 1) n else isOp (sg i) ∧ 2 ≤ n ∧ wfT sg vl k (i + 1) (n - 1)
theorem runT_ext {sg vl sg' vl' : Nat → Int32} {nm : Int32 → Int32} : ∀ (k i n : Nat) (f f' : Nat → Int32), (∀ j, i ≤ j → j < i + k → sg j = sg' j ∧ vl j = vl' j) → (∀ j, j < n → f j = f' j) → wfT sg vl k i n → runT sg vl nm k i n f = runT sg' vl' nm k i n f' := by
  intro k
  induction k with
  | zero =>
    intro i n f f' _ hf hw
    have hw : n = 1 := hw
    exact hf 0 (by omega)
  | succ k ih =>
    intro i n f f' hs hf hw
    obtain ⟨e1, e2⟩ := hs i (Nat.le_refl _) (by omega)
    have hs' : ∀ j, i + 1 ≤ j → j < i + 1 + k → sg j = sg' j ∧ vl j = vl' j := fun j h1 h2 => hs j (by omega) (by omega)
    simp only [runT, wfT] at hw ⊢
    rw [← e1, ← e2]
    by_cases c1 : sg i = 1
    · simp only [if_pos c1] at hw ⊢
      refine ih _ _ _ _ hs' (fun j hj => ?_) hw
      by_cases q : j = n
      · subst q; simp [upd]
      · simp [upd, q]; exact hf j (by omega)
    · simp only [if_neg c1] at hw ⊢
      by_cases c2 : sg i = 2
      · simp only [if_pos c2] at hw ⊢
        refine ih _ _ _ _ hs' (fun j hj => ?_) hw.2
        by_cases q : j = n
        · subst q; simp [upd]
        · simp [upd, q]; exact hf j (by omega)
      · simp only [if_neg c2] at hw ⊢
        by_cases c3 : sg i = 33
        · simp only [if_pos c3] at hw ⊢
          refine ih _ _ _ _ hs' (fun j hj => ?_) hw.2
          by_cases q : j = n - 1
          · subst q; simp only [upd, if_true]; simp [hf (n - 1) (by omega)]
          · simp [upd, q]; exact hf j hj
        · simp only [if_neg c3] at hw ⊢
          refine ih _ _ _ _ hs' (fun j hj => ?_) hw.2.2
          by_cases q : j = n - 2
          · subst q; simp [upd]; rw [hf (n - 2) (by omega), hf (n - 1) (by omega)]
          · simp [upd, q]; exact hf j (by omega)
