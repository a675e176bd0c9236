/-- two ways that come together again -/
theorem Ev_mrg {c : Prop} [Decidable c] {α : Type} (f : α → Prop) (x y : α) : (if c then f x else f y) = f (if c then x else y) := by
  by_cases h : c <;> simp [h]
/-! the model's leaves -/
theorem c_in {d : Nat} {v a b : Int32} {M : ab_M} {K : ab_Q} (hd : 1 ≤ d) : EvD d 118 [.int v, .int a, .int b] M K = K (some (.int (bI (a ≤ v ∧ v ≤ b)))) M := by
  rw [b_118 hd]
  simp +decide only [e_118_0, e_118_1, e_118_2, e_118_5, e_118_6, e_118_7, e_118_10, e_118_11, e_118_14, e_118_15, ↓reduceIte, Int32.reduceAdd, Int32.reduceSub, an_0, an_1, an_2, an_3, an_4, an_5, tc_0, tc_1, tc_2, tc_3, tc_4, tc_5, tc_6, tc_7, tc_8, tc_9, tc_10, tc_11, tc_12, tc_13, tc_14, tc_15, tc_16, tc_17, tc_18, tc_19, tc_20, tc_21, tc_22, tc_23, tc_24, tc_25, tc_26, tc_27, tc_28, tc_29, tc_30, tc_31, tc_32, lcl_none, lcl_int, lcl_ref, lcl_null, lcl_long, okR_nil, okR_int, okR_ref, okR_null, okR_long, pushR_some, pushR_none, va_rf_some, va_rf_none, true_and, and_true, true_implies, false_implies, not_true_eq_false, not_false_eq_true, implies_true, bI_eq0, bI_eq1, bI_01, Classical.not_not, or_em, false_and, and_false]
  simp only [← Int32.not_le]
  by_cases h1 : a ≤ v <;> by_cases h2 : v ≤ b <;> simp [h1, h2, bI]
theorem c_has {d : Nat} {s k : Int32} {M : ab_M} {K : ab_Q} (hd : 1 ≤ d) : EvD d 119 [.int s, .int k] M K = K (some (.int (bI (hasB s k = true)))) M := by
  rw [b_119 hd]
  simp +decide only [e_119_0, e_119_1, e_119_2, e_119_3, e_119_4, e_119_5, e_119_6, e_119_9, e_119_10, e_119_13, e_119_14, ↓reduceIte, Int32.reduceAdd, Int32.reduceSub, an_0, an_1, an_2, an_3, an_4, an_5, tc_0, tc_1, tc_2, tc_3, tc_4, tc_5, tc_6, tc_7, tc_8, tc_9, tc_10, tc_11, tc_12, tc_13, tc_14, tc_15, tc_16, tc_17, tc_18, tc_19, tc_20, tc_21, tc_22, tc_23, tc_24, tc_25, tc_26, tc_27, tc_28, tc_29, tc_30, tc_31, tc_32, lcl_none, lcl_int, lcl_ref, lcl_null, lcl_long, okR_nil, okR_int, okR_ref, okR_null, okR_long, pushR_some, pushR_none, va_rf_some, va_rf_none, true_and, and_true, true_implies, false_implies, not_true_eq_false, not_false_eq_true, implies_true, bI_eq0, bI_eq1, bI_01, Classical.not_not, or_em, false_and, and_false, hasB_iff]
  cases h1 : hasB s k <;> simp [bI]
theorem c_isIn {d : Nat} {s k : Int32} {M : ab_M} {K : ab_Q} (hd : 1 ≤ d) : EvD d 101 [.int s, .int k] M K = K (some (.int (bI (hasB s k = true)))) M := by
  rw [b_101 hd]
  simp +decide only [e_101_0, e_101_1, e_101_2, e_101_3, e_101_4, e_101_5, e_101_6, e_101_9, e_101_10, e_101_13, e_101_14, ↓reduceIte, Int32.reduceAdd, Int32.reduceSub, an_0, an_1, an_2, an_3, an_4, an_5, tc_0, tc_1, tc_2, tc_3, tc_4, tc_5, tc_6, tc_7, tc_8, tc_9, tc_10, tc_11, tc_12, tc_13, tc_14, tc_15, tc_16, tc_17, tc_18, tc_19, tc_20, tc_21, tc_22, tc_23, tc_24, tc_25, tc_26, tc_27, tc_28, tc_29, tc_30, tc_31, tc_32, lcl_none, lcl_int, lcl_ref, lcl_null, lcl_long, okR_nil, okR_int, okR_ref, okR_null, okR_long, pushR_some, pushR_none, va_rf_some, va_rf_none, true_and, and_true, true_implies, false_implies, not_true_eq_false, not_false_eq_true, implies_true, bI_eq0, bI_eq1, bI_01, Classical.not_not, or_em, false_and, and_false, hasB_iff]
  cases h1 : hasB s k <;> simp [bI]
theorem c_isLifeM {d : Nat} {b : Bool} {l : Int32} {M : ab_M} {K : ab_Q} (hd : 2 ≤ d) (hS : Sh b M) : EvD d 121 [.ref 102, .int l] M K = K (some (.int (bI (0 ≤ l ∧ l ≤ mI M 102 16 - 1)))) M := by
  rw [b_121 hd]
  simp +decide only [e_121_0, e_121_1, e_121_2, e_121_3, e_121_6, e_121_7, e_121_8, e_121_11, ↓reduceIte, Int32.reduceAdd, Int32.reduceSub, an_0, an_1, an_2, an_3, an_4, an_5, tc_0, tc_1, tc_2, tc_3, tc_4, tc_5, tc_6, tc_7, tc_8, tc_9, tc_10, tc_11, tc_12, tc_13, tc_14, tc_15, tc_16, tc_17, tc_18, tc_19, tc_20, tc_21, tc_22, tc_23, tc_24, tc_25, tc_26, tc_27, tc_28, tc_29, tc_30, tc_31, tc_32, lcl_none, lcl_int, lcl_ref, lcl_null, lcl_long, okR_nil, okR_int, okR_ref, okR_null, okR_long, pushR_some, pushR_none, va_rf_some, va_rf_none, true_and, and_true, true_implies, false_implies, not_true_eq_false, not_false_eq_true, implies_true, bI_eq0, bI_eq1, bI_01, Classical.not_not, or_em, false_and, and_false, hS.1, kT_102, c_in (Nat.le_refl 1)]
theorem c_isOneM {d : Nat} {b : Bool} {l : Int32} {M : ab_M} {K : ab_Q} (hd : 2 ≤ d) (hS : Sh b M) : EvD d 122 [.ref 102, .int l] M K = K (some (.int (bI (0 ≤ l ∧ l ≤ mI M 102 17 - 1)))) M := by
  rw [b_122 hd]
  simp +decide only [e_122_0, e_122_1, e_122_2, e_122_3, e_122_6, e_122_7, e_122_8, e_122_11, ↓reduceIte, Int32.reduceAdd, Int32.reduceSub, an_0, an_1, an_2, an_3, an_4, an_5, tc_0, tc_1, tc_2, tc_3, tc_4, tc_5, tc_6, tc_7, tc_8, tc_9, tc_10, tc_11, tc_12, tc_13, tc_14, tc_15, tc_16, tc_17, tc_18, tc_19, tc_20, tc_21, tc_22, tc_23, tc_24, tc_25, tc_26, tc_27, tc_28, tc_29, tc_30, tc_31, tc_32, lcl_none, lcl_int, lcl_ref, lcl_null, lcl_long, okR_nil, okR_int, okR_ref, okR_null, okR_long, pushR_some, pushR_none, va_rf_some, va_rf_none, true_and, and_true, true_implies, false_implies, not_true_eq_false, not_false_eq_true, implies_true, bI_eq0, bI_eq1, bI_01, Classical.not_not, or_em, false_and, and_false, hS.1, kT_102, c_in (Nat.le_refl 1)]
theorem c_isAliveM {d : Nat} {b : Bool} {l : Int32} {M : ab_M} {K : ab_Q} (hd : 2 ≤ d) (hS : Sh b M) : EvD d 123 [.ref 102, .int l] M K = K (some (.int (bI (hasB (mI M 111 10) l = true)))) M := by
  rw [b_123 hd]
  simp +decide only [e_123_0, e_123_1, e_123_4, e_123_6, e_123_7, e_123_8, e_123_11, ↓reduceIte, Int32.reduceAdd, Int32.reduceSub, an_0, an_1, an_2, an_3, an_4, an_5, tc_0, tc_1, tc_2, tc_3, tc_4, tc_5, tc_6, tc_7, tc_8, tc_9, tc_10, tc_11, tc_12, tc_13, tc_14, tc_15, tc_16, tc_17, tc_18, tc_19, tc_20, tc_21, tc_22, tc_23, tc_24, tc_25, tc_26, tc_27, tc_28, tc_29, tc_30, tc_31, tc_32, lcl_none, lcl_int, lcl_ref, lcl_null, lcl_long, okR_nil, okR_int, okR_ref, okR_null, okR_long, pushR_some, pushR_none, va_rf_some, va_rf_none, true_and, and_true, true_implies, false_implies, not_true_eq_false, not_false_eq_true, implies_true, bI_eq0, bI_eq1, bI_01, Classical.not_not, or_em, false_and, and_false, hS.1, hS.2.1, hS.2.2.1, kT_102, kT_111, nT_111, rT_102_22, c_has (Nat.le_refl 1)]
def bitsE (s : Int32) : Int32 := 0 + (s >>> (0 : Int32) &&& 1) + (s >>> (1 : Int32) &&& 1) + (s >>> (2 : Int32) &&& 1) + (s >>> (3 : Int32) &&& 1) + (s >>> (4 : Int32) &&& 1)
set_option maxRecDepth 100000 in
theorem c_bits {d : Nat} {s : Int32} {M : ab_M} {K : ab_Q} (hd : 1 ≤ d) : EvD d 120 [.int s] M K = K (some (.int (bitsE s))) M := by
  rw [b_120 hd]
  simp +decide only [e_120_0, e_120_1, e_120_2, e_120_3, e_120_4, e_120_5, e_120_6, e_120_9, e_120_10, e_120_11, e_120_12, e_120_13, e_120_14, e_120_15, e_120_16, e_120_17, e_120_20, e_120_23, e_120_24, ↓reduceIte, Int32.reduceAdd, Int32.reduceSub, an_0, an_1, an_2, an_3, an_4, an_5, tc_0, tc_1, tc_2, tc_3, tc_4, tc_5, tc_6, tc_7, tc_8, tc_9, tc_10, tc_11, tc_12, tc_13, tc_14, tc_15, tc_16, tc_17, tc_18, tc_19, tc_20, tc_21, tc_22, tc_23, tc_24, tc_25, tc_26, tc_27, tc_28, tc_29, tc_30, tc_31, tc_32, lcl_none, lcl_int, lcl_ref, lcl_null, lcl_long, okR_nil, okR_int, okR_ref, okR_null, okR_long, pushR_some, pushR_none, va_rf_some, va_rf_none, true_and, and_true, true_implies, false_implies, not_true_eq_false, not_false_eq_true, implies_true, bI_eq0, bI_eq1, bI_01, Classical.not_not, or_em, false_and, and_false]
  rfl
/-! refs that are one label -/
theorem c_hasLife {d c : Nat} {l : Int32} {M : ab_M} {K : ab_Q} (hd : 1 ≤ d) (hk : mK M c = 1) : EvD d 8 [.ref c, .int l] M K = K (some (.int (bI (0 ≤ l ∧ l < mI M c 5)))) M := by
  rw [b_8 hd]
  simp +decide only [e_8_0, e_8_1, e_8_4, e_8_5, e_8_6, e_8_9, e_8_12, e_8_13, e_8_16, e_8_17, ↓reduceIte, Int32.reduceAdd, Int32.reduceSub, an_0, an_1, an_2, an_3, an_4, an_5, tc_0, tc_1, tc_2, tc_3, tc_4, tc_5, tc_6, tc_7, tc_8, tc_9, tc_10, tc_11, tc_12, tc_13, tc_14, tc_15, tc_16, tc_17, tc_18, tc_19, tc_20, tc_21, tc_22, tc_23, tc_24, tc_25, tc_26, tc_27, tc_28, tc_29, tc_30, tc_31, tc_32, lcl_none, lcl_int, lcl_ref, lcl_null, lcl_long, okR_nil, okR_int, okR_ref, okR_null, okR_long, pushR_some, pushR_none, va_rf_some, va_rf_none, true_and, and_true, true_implies, false_implies, not_true_eq_false, not_false_eq_true, implies_true, bI_eq0, bI_eq1, bI_01, Classical.not_not, or_em, false_and, and_false, hk]
  simp only [← Int32.not_le]
  by_cases h1 : 0 ≤ l <;> by_cases h2 : mI M c 5 ≤ l <;> simp [h1, h2, bI]
theorem c_hasSub {d c : Nat} {l : Int32} {M : ab_M} {K : ab_Q} (hd : 1 ≤ d) (hk : mK M c = 1) : EvD d 9 [.ref c, .int l] M K = K (some (.int (bI (0 ≤ l ∧ l < mI M c 6)))) M := by
  rw [b_9 hd]
  simp +decide only [e_9_0, e_9_1, e_9_4, e_9_5, e_9_6, e_9_9, e_9_12, e_9_13, e_9_16, e_9_17, ↓reduceIte, Int32.reduceAdd, Int32.reduceSub, an_0, an_1, an_2, an_3, an_4, an_5, tc_0, tc_1, tc_2, tc_3, tc_4, tc_5, tc_6, tc_7, tc_8, tc_9, tc_10, tc_11, tc_12, tc_13, tc_14, tc_15, tc_16, tc_17, tc_18, tc_19, tc_20, tc_21, tc_22, tc_23, tc_24, tc_25, tc_26, tc_27, tc_28, tc_29, tc_30, tc_31, tc_32, lcl_none, lcl_int, lcl_ref, lcl_null, lcl_long, okR_nil, okR_int, okR_ref, okR_null, okR_long, pushR_some, pushR_none, va_rf_some, va_rf_none, true_and, and_true, true_implies, false_implies, not_true_eq_false, not_false_eq_true, implies_true, bI_eq0, bI_eq1, bI_01, Classical.not_not, or_em, false_and, and_false, hk]
  simp only [← Int32.not_le]
  by_cases h1 : 0 ≤ l <;> by_cases h2 : mI M c 6 ≤ l <;> simp [h1, h2, bI]
theorem c_isAliveC {d s : Nat} {l : Int32} {M : ab_M} {K : ab_Q} (hd : 2 ≤ d) (hk : mK M s = 7) : EvD d 40 [.ref s, .int l] M K = K (some (.int (bI (hasB (mI M s 2) l = true)))) M := by
  rw [b_40 hd]
  simp +decide only [e_40_0, e_40_1, e_40_4, e_40_5, e_40_8, ↓reduceIte, Int32.reduceAdd, Int32.reduceSub, an_0, an_1, an_2, an_3, an_4, an_5, tc_0, tc_1, tc_2, tc_3, tc_4, tc_5, tc_6, tc_7, tc_8, tc_9, tc_10, tc_11, tc_12, tc_13, tc_14, tc_15, tc_16, tc_17, tc_18, tc_19, tc_20, tc_21, tc_22, tc_23, tc_24, tc_25, tc_26, tc_27, tc_28, tc_29, tc_30, tc_31, tc_32, lcl_none, lcl_int, lcl_ref, lcl_null, lcl_long, okR_nil, okR_int, okR_ref, okR_null, okR_long, pushR_some, pushR_none, va_rf_some, va_rf_none, true_and, and_true, true_implies, false_implies, not_true_eq_false, not_false_eq_true, implies_true, bI_eq0, bI_eq1, bI_01, Classical.not_not, or_em, false_and, and_false, hk, c_isIn (Nat.le_refl 1)]
theorem c_seedM {d : Nat} {b : Bool} {v : Int32} {M : ab_M} {K : ab_Q} (hd : 1 ≤ d) (hS : Sh b M) : EvD d 177 [.ref 102, .int v] M K = (if 0 ≤ v then K (some (.int (mI M 102 28))) (wI M 102 28 v) else K (some (.int (-2000000002))) M) := by
  rw [b_177 hd]
  simp +decide only [e_177_0, e_177_1, e_177_4, e_177_6, e_177_7, e_177_8, e_177_11, e_177_12, e_177_13, e_177_14, e_177_17, e_177_18, ↓reduceIte, Int32.reduceAdd, Int32.reduceSub, an_0, an_1, an_2, an_3, an_4, an_5, tc_0, tc_1, tc_2, tc_3, tc_4, tc_5, tc_6, tc_7, tc_8, tc_9, tc_10, tc_11, tc_12, tc_13, tc_14, tc_15, tc_16, tc_17, tc_18, tc_19, tc_20, tc_21, tc_22, tc_23, tc_24, tc_25, tc_26, tc_27, tc_28, tc_29, tc_30, tc_31, tc_32, lcl_none, lcl_int, lcl_ref, lcl_null, lcl_long, okR_nil, okR_int, okR_ref, okR_null, okR_long, pushR_some, pushR_none, va_rf_some, va_rf_none, true_and, and_true, true_implies, false_implies, not_true_eq_false, not_false_eq_true, implies_true, bI_eq0, bI_eq1, bI_01, Classical.not_not, or_em, false_and, and_false, hS.1, hS.2.1, hS.2.2.1, hS.2.2.2.1, kT_102, kT_103, kT_104, kT_105, kT_106, kT_107, kT_108, kT_109, kT_110, kT_111, kT_112, kT_113, kT_114, kT_115, kT_116, kT_117, kT_118, kT_119, kT_120, nT_103, nT_104, nT_105, nT_106, nT_107, nT_108, nT_109, nT_110, nT_111, nT_112, nT_113, nT_114, nT_115, nT_116, nT_117, nT_118, nT_119, nT_120, rT_102_1, rT_102_12, rT_102_13, rT_102_14, rT_102_18, rT_102_19, rT_102_20, rT_102_21, rT_102_22, rT_102_23, rT_102_25, rT_102_26, rT_102_27, rT_102_30, rT_102_31, rT_102_32, rT_102_33, rT_102_34]
theorem c_seedC {d : Nat} {b : Bool} {v : Int32} {M : ab_M} {K : ab_Q} (hd : 1 ≤ d) (hS : Sh b M) : EvD d 98 [.ref 0, .int v] M K = (if 0 ≤ v then K (some (.int (mI M 92 0))) (wI M 92 0 v) else K (some (.int (-2000000002))) M) := by
  rw [b_98 hd]
  simp +decide only [e_98_0, e_98_1, e_98_4, e_98_6, e_98_7, e_98_8, e_98_11, e_98_14, e_98_15, e_98_16, e_98_19, e_98_20, e_98_23, e_98_24, ↓reduceIte, Int32.reduceAdd, Int32.reduceSub, an_0, an_1, an_2, an_3, an_4, an_5, tc_0, tc_1, tc_2, tc_3, tc_4, tc_5, tc_6, tc_7, tc_8, tc_9, tc_10, tc_11, tc_12, tc_13, tc_14, tc_15, tc_16, tc_17, tc_18, tc_19, tc_20, tc_21, tc_22, tc_23, tc_24, tc_25, tc_26, tc_27, tc_28, tc_29, tc_30, tc_31, tc_32, lcl_none, lcl_int, lcl_ref, lcl_null, lcl_long, okR_nil, okR_int, okR_ref, okR_null, okR_long, pushR_some, pushR_none, va_rf_some, va_rf_none, true_and, and_true, true_implies, false_implies, not_true_eq_false, not_false_eq_true, implies_true, bI_eq0, bI_eq1, bI_01, Classical.not_not, or_em, false_and, and_false, hS.1, hS.2.1, hS.2.2.1, hS.2.2.2.1, kT_0, kT_1, kT_2, kT_3, kT_4, kT_5, kT_6, kT_7, kT_8, kT_9, kT_10, kT_11, kT_12, kT_13, kT_14, kT_15, kT_16, kT_17, kT_18, kT_19, kT_80, kT_81, kT_82, kT_89, kT_90, kT_91, kT_92, kT_93, kT_94, kT_95, kT_96, kT_97, kT_98, kT_99, kT_100, kT_101, nT_2, nT_4, nT_5, nT_6, nT_7, nT_8, nT_10, nT_11, nT_12, nT_13, nT_14, nT_16, nT_17, nT_19, nT_81, nT_82, nT_90, nT_91, nT_94, nT_95, nT_97, nT_98, nT_100, nT_101, rT_0_0, rT_0_1, rT_0_2, rT_0_3, rT_0_4, rT_0_5, rT_0_6, rT_0_7, rT_0_8, rT_0_9, rT_0_10, rT_1_0, rT_3_7, rT_3_8, rT_3_9, rT_3_10, rT_3_11, rT_9_7, rT_9_8, rT_9_9, rT_9_10, rT_9_11, rT_15_0, rT_15_1, rT_18_0, rT_80_0, rT_80_1, rT_89_0, rT_89_1, rT_93_6, rT_93_7, rT_96_0, rT_96_1, rT_99_0, rT_99_1, cond_t, cond_f]
theorem c_tearM {d : Nat} {b : Bool} {M : ab_M} {K : ab_Q} (hd : 1 ≤ d) (hS : Sh b M) : EvD d 175 [.ref 102] M K = K (some (.int (mI M 102 29))) (wI M 102 29 0) := by
  rw [b_175 hd]
  simp +decide only [e_175_0, e_175_1, e_175_4, e_175_5, e_175_6, e_175_7, e_175_10, e_175_11, ↓reduceIte, Int32.reduceAdd, Int32.reduceSub, an_0, an_1, an_2, an_3, an_4, an_5, tc_0, tc_1, tc_2, tc_3, tc_4, tc_5, tc_6, tc_7, tc_8, tc_9, tc_10, tc_11, tc_12, tc_13, tc_14, tc_15, tc_16, tc_17, tc_18, tc_19, tc_20, tc_21, tc_22, tc_23, tc_24, tc_25, tc_26, tc_27, tc_28, tc_29, tc_30, tc_31, tc_32, lcl_none, lcl_int, lcl_ref, lcl_null, lcl_long, okR_nil, okR_int, okR_ref, okR_null, okR_long, pushR_some, pushR_none, va_rf_some, va_rf_none, true_and, and_true, true_implies, false_implies, not_true_eq_false, not_false_eq_true, implies_true, bI_eq0, bI_eq1, bI_01, Classical.not_not, or_em, false_and, and_false, hS.1, hS.2.1, hS.2.2.1, hS.2.2.2.1, kT_102, kT_103, kT_104, kT_105, kT_106, kT_107, kT_108, kT_109, kT_110, kT_111, kT_112, kT_113, kT_114, kT_115, kT_116, kT_117, kT_118, kT_119, kT_120, nT_103, nT_104, nT_105, nT_106, nT_107, nT_108, nT_109, nT_110, nT_111, nT_112, nT_113, nT_114, nT_115, nT_116, nT_117, nT_118, nT_119, nT_120, rT_102_1, rT_102_12, rT_102_13, rT_102_14, rT_102_18, rT_102_19, rT_102_20, rT_102_21, rT_102_22, rT_102_23, rT_102_25, rT_102_26, rT_102_27, rT_102_30, rT_102_31, rT_102_32, rT_102_33, rT_102_34]
theorem c_tearC {d : Nat} {b : Bool} {M : ab_M} {K : ab_Q} (hd : 2 ≤ d) (hS : Sh b M) : EvD d 96 [.ref 0] M K = K (some (.int (mI M 89 2))) (wI M 89 2 0) := by
  rw [b_96 hd]
  simp +decide only [e_96_0, e_96_1, e_96_4, e_96_7, ↓reduceIte, Int32.reduceAdd, Int32.reduceSub, an_0, an_1, an_2, an_3, an_4, an_5, tc_0, tc_1, tc_2, tc_3, tc_4, tc_5, tc_6, tc_7, tc_8, tc_9, tc_10, tc_11, tc_12, tc_13, tc_14, tc_15, tc_16, tc_17, tc_18, tc_19, tc_20, tc_21, tc_22, tc_23, tc_24, tc_25, tc_26, tc_27, tc_28, tc_29, tc_30, tc_31, tc_32, lcl_none, lcl_int, lcl_ref, lcl_null, lcl_long, okR_nil, okR_int, okR_ref, okR_null, okR_long, pushR_some, pushR_none, va_rf_some, va_rf_none, true_and, and_true, true_implies, false_implies, not_true_eq_false, not_false_eq_true, implies_true, bI_eq0, bI_eq1, bI_01, Classical.not_not, or_em, false_and, and_false, hS.1, hS.2.1, hS.2.2.1, hS.2.2.2.1, kT_0, kT_1, kT_2, kT_3, kT_4, kT_5, kT_6, kT_7, kT_8, kT_9, kT_10, kT_11, kT_12, kT_13, kT_14, kT_15, kT_16, kT_17, kT_18, kT_19, kT_80, kT_81, kT_82, kT_89, kT_90, kT_91, kT_92, kT_93, kT_94, kT_95, kT_96, kT_97, kT_98, kT_99, kT_100, kT_101, nT_2, nT_4, nT_5, nT_6, nT_7, nT_8, nT_10, nT_11, nT_12, nT_13, nT_14, nT_16, nT_17, nT_19, nT_81, nT_82, nT_90, nT_91, nT_94, nT_95, nT_97, nT_98, nT_100, nT_101, rT_0_0, rT_0_1, rT_0_2, rT_0_3, rT_0_4, rT_0_5, rT_0_6, rT_0_7, rT_0_8, rT_0_9, rT_0_10, rT_1_0, rT_3_7, rT_3_8, rT_3_9, rT_3_10, rT_3_11, rT_9_7, rT_9_8, rT_9_9, rT_9_10, rT_9_11, rT_15_0, rT_15_1, rT_18_0, rT_80_0, rT_80_1, rT_89_0, rT_89_1, rT_93_6, rT_93_7, rT_96_0, rT_96_1, rT_99_0, rT_99_1, cond_t, cond_f, b_4 (Nat.le_refl 1), e_4_0, e_4_1, e_4_4, e_4_5, e_4_6, e_4_7, e_4_10, e_4_11]
/-! scalars -/
theorem u2_ne {α : Type} {f : Nat → Nat → α} {a k b : Nat} {v : α} (h : b ≠ a) : u2 f a k v b = f b := by
  funext j
  rw [u2, if_neg (fun e => h e.1)]
theorem u2_nk {α : Type} {f : Nat → Nat → α} {a k b j : Nat} {v : α} (h : j ≠ k) : u2 f a k v b j = f b j := by
  rw [u2, if_neg (fun e => h e.2)]
theorem u2_at {α : Type} {f : Nat → Nat → α} {a k : Nat} {v : α} : u2 f a k v a k = v := by
  rw [u2, if_pos ⟨rfl, rfl⟩]
theorem RC_sc {b : Bool} {M M1 : ab_M} {σ σ1 : Sg} (h : RC b M σ) (hm : ∀ a, ¬ (a = chL b ∨ a = 0 ∨ a = 1 ∨ a = 18 ∨ a = 89 ∨ a = 92) → mI M1 a = mI M a) (h18 : mI M1 18 1 = mI M 18 1) (h0 : RC0 b M1 σ1) (hσ : ∀ j, j ≠ 0 → σ1 j = σ j) (h00 : σ1 0 0 = σ 0 0) (h01 : σ1 0 1 = σ 0 1) (h06 : σ1 0 6 = σ 0 6) : RC b M1 σ1 := by
  obtain ⟨c1, c2, c3, c4, c5, c6, c7⟩ := h
  have hb := chL_cases b
  exact ⟨h0, c2.kp (fun a g1 g2 => hm a (by omega)) h00 h01 (hσ _ (by decide)) (hσ _ (by decide)) (hσ _ (by decide)), c3.kp (fun a g1 g2 => hm a (by omega)) (fun k _ => by rw [hσ _ (by decide)]), c4.kp (hm _ (by omega)) (hσ _ (by decide)), c5.kp (hm _ (by omega)) (hm _ (by omega)) (hσ _ (by decide)) (hσ _ (by decide)), c6.kp (fun a g1 g2 => hm a (by omega)) (hσ _ (by decide)) (hσ _ (by decide)) (hσ _ (by decide)) (hσ _ (by decide)), c7.kp h18 (fun a g1 g2 => hm a (by omega)) h06 (fun i _ => hσ _ (by omega))⟩
theorem RM_sc {M M1 : ab_M} {σ σ1 : Sg} (h : RM M σ) (hm : ∀ a, 102 < a → mI M1 a = mI M a) (h0 : RM0 M1 σ1) (hσ : ∀ j, j ≠ 0 → σ1 j = σ j) (h00 : σ1 0 0 = σ 0 0) (h01 : σ1 0 1 = σ 0 1) (h06 : σ1 0 6 = σ 0 6) : RM M1 σ1 := by
  obtain ⟨c1, c2, c3, c4, c5, c6, c7⟩ := h
  exact ⟨h0, c2.kp (fun a g1 g2 => hm a (by omega)) h00 h01 (hσ _ (by decide)) (hσ _ (by decide)) (hσ _ (by decide)), c3.kp (hm _ (by omega)) (hσ _ (by decide)), c4.kp (hm _ (by omega)) (hσ _ (by decide)), c5.kp (hm _ (by omega)) (hσ _ (by decide)) (hσ _ (by decide)), c6.kp (fun a g1 g2 => hm a (by omega)) (hσ _ (by decide)) (hσ _ (by decide)) (hσ _ (by decide)) (hσ _ (by decide)), c7.kp (hm _ (by omega)) h06 (fun i _ => hσ _ (by omega))⟩
theorem IV_sc {L P : Nat} {σ σ1 : Sg} (h : IV L P σ) (hσ : ∀ j, j ≠ 0 → j ≠ 6 → j ≠ 7 → j ≠ 8 → σ1 j = σ j) (h00 : σ1 0 0 = σ 0 0) (h01 : σ1 0 1 = σ 0 1) (h02 : σ1 0 2 = σ 0 2) (h06 : σ1 0 6 = σ 0 6) (h4 : 0 ≤ σ1 0 4) (h5 : ∃ n, n ≤ 220 ∧ σ1 0 5 = nI n) (h7 : ∃ n, n ≤ 15 ∧ σ1 0 7 = nI n ∧ ∀ i, i < n → ∃ j, j < P ∧ σ1 7 i = nI j) : IV L P σ1 := by
  obtain ⟨⟨a1, a2, a3, a4, a5, a6⟩, b5, b6, b7, t, q, x, n, p, im⟩ := h
  refine ⟨⟨a1, a2, by rw [h00]; exact a3, by rw [h01]; exact a4, by rw [h02]; exact a5, h4⟩, h5, by rw [h06]; exact b6, h7, ?_, ?_, ?_, ?_, ?_, ?_⟩
  · rw [hσ 1 (by decide) (by decide) (by decide) (by decide)]; exact t
  · rw [hσ 2 (by decide) (by decide) (by decide) (by decide), hσ 3 (by decide) (by decide) (by decide) (by decide)]; exact q
  · rw [hσ 4 (by decide) (by decide) (by decide) (by decide)]; exact x
  · rw [hσ 5 (by decide) (by decide) (by decide) (by decide)]; exact n
  · intro i hi hn
    rw [h06] at hn
    rw [hσ (20 + i) (by omega) (by omega) (by omega) (by omega)]
    exact p i hi hn
  · intro i hi
    rw [hσ 12 (by decide) (by decide) (by decide) (by decide), hσ 9 (by decide) (by decide) (by decide) (by decide), hσ (10 + i) (by omega) (by omega) (by omega) (by omega)]
    exact im i hi
/-- the facts of a state by which calls are walked -/
theorem IV_n {L P : Nat} {σ : Sg} (h : IV L P σ) : L ≤ 5 ∧ P ≤ 5 ∧ σ 0 0 = nI L ∧ σ 0 1 = nI P := ⟨h.1.1, h.1.2.1, h.1.2.2.1, h.1.2.2.2.1⟩
/-! the charter in use -/
theorem chS1 {b : Bool} : rT b 0 1 = some (chL b) := rfl
theorem chK {b : Bool} : kT (chL b) = 1 := by cases b <;> rfl
theorem chR7 {b : Bool} : rT b (chL b) 7 = some (chL b + 1) := by cases b <;> rfl
theorem chK7 {b : Bool} : kT (chL b + 1) = 20 := by cases b <;> rfl
theorem chN7 {b : Bool} : nT (chL b + 1) = 5 := by cases b <;> rfl
theorem chR8 {b : Bool} : rT b (chL b) 8 = some (chL b + 2) := by cases b <;> rfl
theorem chK8 {b : Bool} : kT (chL b + 2) = 20 := by cases b <;> rfl
theorem chN8 {b : Bool} : nT (chL b + 2) = 5 := by cases b <;> rfl
theorem chR9 {b : Bool} : rT b (chL b) 9 = some (chL b + 3) := by cases b <;> rfl
theorem chK9 {b : Bool} : kT (chL b + 3) = 20 := by cases b <;> rfl
theorem chN9 {b : Bool} : nT (chL b + 3) = 5 := by cases b <;> rfl
theorem chR10 {b : Bool} : rT b (chL b) 10 = some (chL b + 4) := by cases b <;> rfl
theorem chK10 {b : Bool} : kT (chL b + 4) = 20 := by cases b <;> rfl
theorem chN10 {b : Bool} : nT (chL b + 4) = 5 := by cases b <;> rfl
theorem chR11 {b : Bool} : rT b (chL b) 11 = some (chL b + 5) := by cases b <;> rfl
theorem chK11 {b : Bool} : kT (chL b + 5) = 20 := by cases b <;> rfl
theorem chN11 {b : Bool} : nT (chL b + 5) = 5 := by cases b <;> rfl
theorem RO {x m : Nat} {as : List Int32} {M : ab_M} {b : Bool} {σ : Sg} {L P : Nat} (hS : Sh b M) (hC : RC b M σ) (hMo : RM M σ) (hI : IV L P σ) (v : Int32) (h1 : EvD 20 x (.ref 0 :: as.map .int) M (fun r M1 => r = some (.int v) ∧ Sh b M1 ∧ ∀ a, a < 93 ∨ 102 ≤ a → mI M1 a = mI M a)) (h2 : ∀ M1, Sh b M1 → RM M1 σ → EvD 20 m (.ref 102 :: as.map .int) M1 (fun r M2 => r = some (.int v) ∧ Sh b M2 ∧ ∀ a, a < 119 → mI M2 a = mI M1 a)) : lwStep Rel x m as M := by
  refine EvD_mono h1 (fun r M1 hr => ?_)
  obtain ⟨rfl, hS1, hf⟩ := hr
  have hMo1 : RM M1 σ := hMo.kp (fun a ha => hf a (Or.inr ha))
  refine ⟨v, b, rfl, hS1, EvD_mono (h2 M1 hS1 hMo1) (fun r M2 hr => ?_)⟩
  obtain ⟨rfl, hS2, hf2⟩ := hr
  refine ⟨rfl, b, σ, L, P, hS2, ?_, ?_, hI⟩
  · obtain ⟨c1, c2, c3, c4, c5, c6, c7⟩ := hC
    have hb := chL_lt b
    have hm : ∀ a, a < 93 → mI M2 a = mI M a := fun a ha => (hf2 a (by omega)).trans (hf a (Or.inl ha))
    exact ⟨c1.kp (fun a ha => hm a (by omega)) rfl rfl, c2.kp (fun a g1 g2 => hm a (by omega)) rfl rfl rfl rfl rfl, c3.kp (fun a g1 g2 => hm a (by omega)) (fun _ _ => rfl), c4.kp (hm _ (by omega)) rfl, c5.kp (hm _ (by omega)) (hm _ (by omega)) rfl rfl, c6.kp (fun a g1 g2 => hm a (by omega)) rfl rfl rfl rfl, c7.kp (congrFun (hm _ (by omega)) 1) (fun a g1 g2 => hm a (by omega)) rfl (fun _ _ => rfl)⟩
  · obtain ⟨m1, m2, m3, m4, m5, m6, m7⟩ := hMo1
    have hm := hf2
    exact ⟨m1.kp (hm _ (by omega)) (hm _ (by omega)) rfl rfl, m2.kp (fun a g1 g2 => hm a (by omega)) rfl rfl rfl rfl rfl, m3.kp (hm _ (by omega)) rfl, m4.kp (hm _ (by omega)) rfl, m5.kp (hm _ (by omega)) rfl rfl, m6.kp (fun a g1 g2 => hm a (by omega)) rfl rfl rfl rfl, m7.kp (hm _ (by omega)) rfl (fun _ _ => rfl)⟩
