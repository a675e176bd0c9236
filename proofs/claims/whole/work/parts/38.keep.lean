/-! keep, goBack: the bits -/
theorem and1 (x : Int32) : x &&& 1 = 0 ∨ x &&& 1 = 1 := by
  have h : x.toBitVec &&& 1#32 = 0#32 ∨ x.toBitVec &&& 1#32 = 1#32 := by
    rw [BitVec.and_one_eq_setWidth_ofBool_getLsbD]
    cases x.toBitVec.getLsbD 0
    · exact Or.inl (by decide)
    · exact Or.inr (by decide)
  rcases h with h | h
  · exact Or.inl (Int32.toBitVec_inj.mp h)
  · exact Or.inr (Int32.toBitVec_inj.mp h)
theorem ao_d {x y z : Int32} : (x ||| y) &&& z = (x &&& z) ||| (y &&& z) := by
  apply Int32.toBitVec_inj.mp
  simp only [Int32.toBitVec_and, Int32.toBitVec_or]
  exact BitVec.and_or_distrib_right
theorem kTi_83 : ∀ i, i < 2 → kT (83 + 3 * i) = 7 := by decide +kernel
theorem hasB_or2 (T : Int32) : ∀ i, i < 2 → ∀ k, k < 2 → hasB (T ||| (1 : Int32) <<< (nI i &&& 31)) (nI k) = (decide (k = i) || hasB T (nI k)) := by
  intro i hi k hk
  unfold hasB
  rw [Int32.shiftRight_or, ao_d]
  have e : ∀ i, i < 2 → ∀ k, k < 2 → ((1 : Int32) <<< (nI i &&& 31)) >>> (nI k &&& 31) &&& 1 = if k = i then 1 else 0 := by decide +kernel
  rw [e i hi k hk]
  by_cases h : k = i
  · rw [if_pos h]
    rcases and1 (T >>> (nI k &&& 31)) with z | z <;> rw [z] <;> simp [h] <;> decide
  · rw [if_neg h, Int32.or_zero]
    simp [h]
theorem rT_81 {b : Bool} : ∀ i, i < 2 → rT b 81 i = some (83 + 3 * i) := by cases b <;> decide +kernel
theorem c_has4 {d : Nat} {b : Bool} {s : Int32} {M : ab_M} {K : ab_Q} (hd : 1 ≤ d) (hS : Sh b M) : EvD d 21 [.ref 80, .int s] M K = K (some (.int (bI (0 ≤ s ∧ s < 2)))) M := by
  rw [b_21 hd]
  simp +decide only [e_21_0, e_21_1, e_21_4, e_21_5, e_21_6, e_21_9, e_21_10, e_21_13, e_21_14, ↓reduceIte, Int32.reduceAdd, Int32.reduceSub, an_0, an_1, an_2, an_3, an_4, an_5, tc_0, tc_1, tc_2, tc_3, tc_4, tc_5, tc_6, tc_7, tc_8, tc_9, tc_10, tc_11, tc_12, tc_13, tc_14, tc_15, tc_16, tc_17, tc_18, tc_19, tc_20, tc_21, tc_22, tc_23, tc_24, tc_25, tc_26, tc_27, tc_28, tc_29, tc_30, tc_31, tc_32, lcl_none, lcl_int, lcl_ref, lcl_null, lcl_long, okR_nil, okR_int, okR_ref, okR_null, okR_long, pushR_some, pushR_none, va_rf_some, va_rf_none, true_and, and_true, true_implies, false_implies, not_true_eq_false, not_false_eq_true, implies_true, bI_eq0, bI_eq1, bI_01, Classical.not_not, or_em, false_and, and_false, hS.1, hS.2.1, hS.2.2.1, hS.2.2.2.1, kT_0, kT_1, kT_2, kT_15, kT_16, kT_17, kT_18, kT_19, kT_80, kT_81, kT_82, kT_89, kT_90, kT_91, kT_92, kT_93, kT_94, kT_95, kT_96, kT_97, kT_98, kT_99, kT_100, kT_101, nT_2, nT_16, nT_17, nT_19, nT_81, nT_82, nT_90, nT_91, nT_94, nT_95, nT_97, nT_98, nT_100, nT_101, rT_0_0, rT_0_3, rT_0_4, rT_0_5, rT_0_6, rT_0_7, rT_0_8, rT_0_9, rT_0_10, rT_1_0, rT_15_0, rT_15_1, rT_18_0, rT_80_0, rT_80_1, rT_89_0, rT_89_1, rT_93_6, rT_93_7, rT_96_0, rT_96_1, rT_99_0, rT_99_1]
  simp only [← Int32.not_le]
  by_cases h1 : 0 ≤ s <;> by_cases h2 : 2 ≤ s <;> simp [h1, h2, bI]
def kpS (σ : Sg) (i : Nat) : Sg := fun j k => if j = 10 + i then σ 5 k else if j = 9 ∧ k = i then σ 0 4 else if j = 12 ∧ k = i then 1 else if j = 0 ∧ k = 6 then 0 else σ j k
theorem kpS_ne {σ : Sg} {i j : Nat} (hi : i < 2) (h : j < 9 ∨ 12 < j) (h0 : j ≠ 0) : kpS σ i j = σ j := by
  funext k
  unfold kpS
  rw [if_neg (by omega), if_neg (by omega), if_neg (by omega), if_neg (by omega)]
theorem kpS_0 {σ : Sg} {i k : Nat} (h : k ≠ 6) : kpS σ i 0 k = σ 0 k := by
  unfold kpS
  rw [if_neg (by omega), if_neg (by omega), if_neg (by omega), if_neg (by omega)]
theorem kpS_06 {σ : Sg} {i : Nat} : kpS σ i 0 6 = 0 := by
  unfold kpS
  rw [if_neg (by omega), if_neg (by omega), if_neg (by omega), if_pos ⟨rfl, rfl⟩]
theorem kpS_9 {σ : Sg} {i k : Nat} : kpS σ i 9 k = if k = i then σ 0 4 else σ 9 k := by
  unfold kpS
  rw [if_neg (by omega)]
  by_cases h : k = i
  · rw [if_pos ⟨rfl, h⟩, if_pos h]
  · rw [if_neg (by omega), if_neg (by omega), if_neg (by omega), if_neg h]
theorem kpS_12 {σ : Sg} {i k : Nat} (hi : i < 2) : kpS σ i 12 k = if k = i then 1 else σ 12 k := by
  unfold kpS
  rw [if_neg (by omega), if_neg (by omega)]
  by_cases h : k = i
  · rw [if_pos ⟨rfl, h⟩, if_pos h]
  · rw [if_neg (by omega), if_neg (by omega), if_neg h]
theorem kpS_10 {σ : Sg} {i k : Nat} (hk : k < 2) : kpS σ i (10 + k) = if k = i then σ 5 else σ (10 + k) := by
  funext x
  unfold kpS
  by_cases h : k = i
  · rw [if_pos (by omega), if_pos h]
  · rw [if_neg (by omega), if_neg (by omega), if_neg (by omega), if_neg (by omega), if_neg h]
theorem IV_kp {L P i : Nat} {σ : Sg} (h : IV L P σ) (hi : i < 2) : IV L P (kpS σ i) := by
  obtain ⟨⟨a1, a2, a3, a4, a5, a6⟩, b5, b6, b7, t, q, x, nw, p, im⟩ := h
  refine ⟨⟨a1, a2, by rw [kpS_0 (by decide)]; exact a3, by rw [kpS_0 (by decide)]; exact a4, by rw [kpS_0 (by decide)]; exact a5, by rw [kpS_0 (by decide)]; exact a6⟩, by rw [kpS_0 (by decide)]; exact b5, ⟨0, by decide, kpS_06⟩, by rw [kpS_0 (by decide), kpS_ne (j := 7) hi (by decide) (by decide)]; exact b7, by rw [kpS_ne (j := 1) hi (by decide) (by decide)]; exact t, by rw [kpS_ne (j := 2) hi (by decide) (by decide), kpS_ne (j := 3) hi (by decide) (by decide)]; exact q, by rw [kpS_ne (j := 4) hi (by decide) (by decide)]; exact x, by rw [kpS_ne (j := 5) hi (by decide) (by decide)]; exact nw, fun k hk hkn => ?_, fun k hk => ?_⟩
  · rw [kpS_06, show (0 : Int32) = nI 0 from rfl, nI_ltE (by omega) (by omega)] at hkn
    exact absurd hkn (by omega)
  · rw [kpS_9, kpS_12 hi, kpS_10 hk]
    by_cases h : k = i
    · rw [if_pos h, if_pos h, if_pos h]
      exact ⟨Or.inr rfl, fun _ => ⟨a6, nw⟩⟩
    · rw [if_neg h, if_neg h, if_neg h]
      exact im k hk
theorem C_keep1 {d i : Nat} {b : Bool} {σ : Sg} {M : ab_M} (hd : 3 ≤ d) (hS : Sh b M) (hC : RC b M σ) (hi : i < 2) : EvD d 99 [.ref 0, .int (nI i)] M (fun r M1 => r = some (.int 1) ∧ Sh b M1 ∧ frC M M1 ∧ RC b M1 (kpS σ i)) := by
  obtain ⟨c1, c2, c3, c4, c5, c6, o, ho, eo, cp⟩ := hC
  have hb := chL_lt b
  have hx : (0 ≤ nI i ∧ nI i < 2) = True := eq_true (ix_nI (P := 2) (by decide) hi)
  have ci : (nI i).toNatClampNeg = i := nI_clamp (by omega)
  have ii : inX (nI i) 2 = True := eq_true (inX_nI (by decide) hi)
  have h92 : mI M 92 0 = σ 0 4 := c1.2.1.2.1
  generalize hM1 : cpSt M (83 + 3 * i) 15 = M1
  have hS1 : Sh b M1 := by rw [← hM1]; exact hS
  have hcp : ∀ K, EvD 1 39 [.ref (83 + 3 * i), .ref 15] M K = K none M1 := fun K => by rw [← hM1]; exact c_copyFrom (d := 1) (by decide) (by omega) (Stt_Sh hS (by omega)) (Stt_Sh hS (Or.inl rfl))
  have hf1 : ∀ a, a < 83 ∨ 88 < a → mI M1 a = mI M a := fun a g => by rw [← hM1]; exact cpSt_fr (by omega)
  generalize hM2 : wI (wI M1 82 i (σ 0 4)) 80 2 (mI M 80 2 ||| (1 : Int32) <<< (nI i &&& 31)) = M2
  have hS2 : Sh b M2 := by rw [← hM2]; exact hS1
  have htk : ∀ K, EvD 2 24 [.ref 80, .int (nI i), .ref 15, .ref 92] M K = K none M2 := fun K => by
    rw [b_24 (by decide)]
    simp +decide only [e_24_0, e_24_1, e_24_2, e_24_5, e_24_8, e_24_9, e_24_12, e_24_13, e_24_14, e_24_15, ↓reduceIte, Int32.reduceAdd, Int32.reduceSub, an_0, an_1, an_2, an_3, an_4, an_5, tc_0, tc_1, tc_2, tc_3, tc_4, tc_5, tc_6, tc_7, tc_8, tc_9, tc_10, tc_11, tc_12, tc_13, tc_14, tc_15, tc_16, tc_17, tc_18, tc_19, tc_20, tc_21, tc_22, tc_23, tc_24, tc_25, tc_26, tc_27, tc_28, tc_29, tc_30, tc_31, tc_32, lcl_none, lcl_int, lcl_ref, lcl_null, lcl_long, okR_nil, okR_int, okR_ref, okR_null, okR_long, pushR_some, pushR_none, va_rf_some, va_rf_none, true_and, and_true, true_implies, false_implies, not_true_eq_false, not_false_eq_true, implies_true, bI_eq0, bI_eq1, bI_01, Classical.not_not, or_em, false_and, and_false, hS.1, hS.2.1, hS.2.2.1, hS.2.2.2.1, kT_0, kT_1, kT_2, kT_15, kT_16, kT_17, kT_18, kT_19, kT_80, kT_81, kT_82, kT_89, kT_90, kT_91, kT_92, kT_93, kT_94, kT_95, kT_96, kT_97, kT_98, kT_99, kT_100, kT_101, nT_2, nT_16, nT_17, nT_19, nT_81, nT_82, nT_90, nT_91, nT_94, nT_95, nT_97, nT_98, nT_100, nT_101, rT_0_0, rT_0_3, rT_0_4, rT_0_5, rT_0_6, rT_0_7, rT_0_8, rT_0_9, rT_0_10, rT_1_0, rT_15_0, rT_15_1, rT_18_0, rT_80_0, rT_80_1, rT_89_0, rT_89_1, rT_93_6, rT_93_7, rT_96_0, rT_96_1, rT_99_0, rT_99_1, c_has4 (d := 1) (by decide) hS, hx, ci, ii, rT_81 i hi, kTi_83 i hi, hcp]
    simp +decide only [e_24_18, e_24_19, e_24_22, e_24_23, e_24_24, e_24_27, e_24_28, e_24_29, e_24_29r, e_24_30, e_24_33, e_24_34, e_24_35, e_24_36, e_24_37, e_24_40, ↓reduceIte, Int32.reduceAdd, Int32.reduceSub, an_0, an_1, an_2, an_3, an_4, an_5, tc_0, tc_1, tc_2, tc_3, tc_4, tc_5, tc_6, tc_7, tc_8, tc_9, tc_10, tc_11, tc_12, tc_13, tc_14, tc_15, tc_16, tc_17, tc_18, tc_19, tc_20, tc_21, tc_22, tc_23, tc_24, tc_25, tc_26, tc_27, tc_28, tc_29, tc_30, tc_31, tc_32, lcl_none, lcl_int, lcl_ref, lcl_null, lcl_long, okR_nil, okR_int, okR_ref, okR_null, okR_long, pushR_some, pushR_none, va_rf_some, va_rf_none, true_and, and_true, true_implies, false_implies, not_true_eq_false, not_false_eq_true, implies_true, bI_eq0, bI_eq1, bI_01, Classical.not_not, or_em, false_and, and_false, mI_wI, mI_wJ, mI_wR, mJ_wI, mJ_wJ, mJ_wR, mR_wI, mR_wJ, mR_wR, mK_wI, mK_wJ, mK_wR, mN_wI, mN_wJ, mN_wR, mZ_wI, mZ_wJ, mZ_wR, hS1.1, hS1.2.1, hS1.2.2.1, kT_0, kT_1, kT_2, kT_15, kT_16, kT_17, kT_18, kT_19, kT_80, kT_81, kT_82, kT_89, kT_90, kT_91, kT_92, kT_93, kT_94, kT_95, kT_96, kT_97, kT_98, kT_99, kT_100, kT_101, nT_2, nT_16, nT_17, nT_19, nT_81, nT_82, nT_90, nT_91, nT_94, nT_95, nT_97, nT_98, nT_100, nT_101, rT_0_0, rT_0_3, rT_0_4, rT_0_5, rT_0_6, rT_0_7, rT_0_8, rT_0_9, rT_0_10, rT_1_0, rT_15_0, rT_15_1, rT_18_0, rT_80_0, rT_80_1, rT_89_0, rT_89_1, rT_93_6, rT_93_7, rT_96_0, rT_96_1, rT_99_0, rT_99_1, ci, ii, hf1 92 (by decide), hf1 80 (by decide), h92, hM2]
  have hfg : ∀ K, EvD 2 33 [.ref 18] M2 K = K none (wI M2 18 2 0) := fun K => by
    rw [b_33 (by decide)]
    simp +decide only [e_33_0, e_33_1, e_33_2, e_33_5, ↓reduceIte, Int32.reduceAdd, Int32.reduceSub, an_0, an_1, an_2, an_3, an_4, an_5, tc_0, tc_1, tc_2, tc_3, tc_4, tc_5, tc_6, tc_7, tc_8, tc_9, tc_10, tc_11, tc_12, tc_13, tc_14, tc_15, tc_16, tc_17, tc_18, tc_19, tc_20, tc_21, tc_22, tc_23, tc_24, tc_25, tc_26, tc_27, tc_28, tc_29, tc_30, tc_31, tc_32, lcl_none, lcl_int, lcl_ref, lcl_null, lcl_long, okR_nil, okR_int, okR_ref, okR_null, okR_long, pushR_some, pushR_none, va_rf_some, va_rf_none, true_and, and_true, true_implies, false_implies, not_true_eq_false, not_false_eq_true, implies_true, bI_eq0, bI_eq1, bI_01, Classical.not_not, or_em, false_and, and_false, hS2.1, kT_0, kT_1, kT_2, kT_15, kT_16, kT_17, kT_18, kT_19, kT_80, kT_81, kT_82, kT_89, kT_90, kT_91, kT_92, kT_93, kT_94, kT_95, kT_96, kT_97, kT_98, kT_99, kT_100, kT_101, nT_2, nT_16, nT_17, nT_19, nT_81, nT_82, nT_90, nT_91, nT_94, nT_95, nT_97, nT_98, nT_100, nT_101, rT_0_0, rT_0_3, rT_0_4, rT_0_5, rT_0_6, rT_0_7, rT_0_8, rT_0_9, rT_0_10, rT_1_0, rT_15_0, rT_15_1, rT_18_0, rT_80_0, rT_80_1, rT_89_0, rT_89_1, rT_93_6, rT_93_7, rT_96_0, rT_96_1, rT_99_0, rT_99_1]
  rw [b_99 hd]
  simp +decide only [e_99_0, e_99_1, e_99_4, e_99_5, e_99_8, e_99_11, e_99_13, e_99_14, e_99_15, e_99_18, e_99_19, e_99_20, e_99_23, e_99_24, e_99_27, ↓reduceIte, Int32.reduceAdd, Int32.reduceSub, an_0, an_1, an_2, an_3, an_4, an_5, tc_0, tc_1, tc_2, tc_3, tc_4, tc_5, tc_6, tc_7, tc_8, tc_9, tc_10, tc_11, tc_12, tc_13, tc_14, tc_15, tc_16, tc_17, tc_18, tc_19, tc_20, tc_21, tc_22, tc_23, tc_24, tc_25, tc_26, tc_27, tc_28, tc_29, tc_30, tc_31, tc_32, lcl_none, lcl_int, lcl_ref, lcl_null, lcl_long, okR_nil, okR_int, okR_ref, okR_null, okR_long, pushR_some, pushR_none, va_rf_some, va_rf_none, true_and, and_true, true_implies, false_implies, not_true_eq_false, not_false_eq_true, implies_true, bI_eq0, bI_eq1, bI_01, Classical.not_not, or_em, false_and, and_false, hS.1, hS.2.1, hS.2.2.1, hS.2.2.2.1, kT_0, kT_1, kT_2, kT_15, kT_16, kT_17, kT_18, kT_19, kT_80, kT_81, kT_82, kT_89, kT_90, kT_91, kT_92, kT_93, kT_94, kT_95, kT_96, kT_97, kT_98, kT_99, kT_100, kT_101, nT_2, nT_16, nT_17, nT_19, nT_81, nT_82, nT_90, nT_91, nT_94, nT_95, nT_97, nT_98, nT_100, nT_101, rT_0_0, rT_0_3, rT_0_4, rT_0_5, rT_0_6, rT_0_7, rT_0_8, rT_0_9, rT_0_10, rT_1_0, rT_15_0, rT_15_1, rT_18_0, rT_80_0, rT_80_1, rT_89_0, rT_89_1, rT_93_6, rT_93_7, rT_96_0, rT_96_1, rT_99_0, rT_99_1, chS1, chK, chR7, chK7, chN7, chR8, chK8, chN8, chR9, chK9, chN9, chR10, chK10, chN10, chR11, chK11, chN11, c_has4 (d := 2) (by decide) hS, hx, htk]
  simp +decide only [e_99_30, e_99_31, e_99_34, e_99_37, e_99_38, ↓reduceIte, Int32.reduceAdd, Int32.reduceSub, an_0, an_1, an_2, an_3, an_4, an_5, tc_0, tc_1, tc_2, tc_3, tc_4, tc_5, tc_6, tc_7, tc_8, tc_9, tc_10, tc_11, tc_12, tc_13, tc_14, tc_15, tc_16, tc_17, tc_18, tc_19, tc_20, tc_21, tc_22, tc_23, tc_24, tc_25, tc_26, tc_27, tc_28, tc_29, tc_30, tc_31, tc_32, lcl_none, lcl_int, lcl_ref, lcl_null, lcl_long, okR_nil, okR_int, okR_ref, okR_null, okR_long, pushR_some, pushR_none, va_rf_some, va_rf_none, true_and, and_true, true_implies, false_implies, not_true_eq_false, not_false_eq_true, implies_true, bI_eq0, bI_eq1, bI_01, Classical.not_not, or_em, false_and, and_false, hS2.1, hS2.2.1, hS2.2.2.1, hS2.2.2.2.1, kT_0, kT_1, kT_2, kT_15, kT_16, kT_17, kT_18, kT_19, kT_80, kT_81, kT_82, kT_89, kT_90, kT_91, kT_92, kT_93, kT_94, kT_95, kT_96, kT_97, kT_98, kT_99, kT_100, kT_101, nT_2, nT_16, nT_17, nT_19, nT_81, nT_82, nT_90, nT_91, nT_94, nT_95, nT_97, nT_98, nT_100, nT_101, rT_0_0, rT_0_3, rT_0_4, rT_0_5, rT_0_6, rT_0_7, rT_0_8, rT_0_9, rT_0_10, rT_1_0, rT_15_0, rT_15_1, rT_18_0, rT_80_0, rT_80_1, rT_89_0, rT_89_1, rT_93_6, rT_93_7, rT_96_0, rT_96_1, rT_99_0, rT_99_1, chS1, chK, chR7, chK7, chN7, chR8, chK8, chN8, chR9, chK9, chN9, chR10, chK10, chN10, chR11, chK11, chN11, hfg]
  have hm : ∀ a, a ≠ 18 → a < 80 ∨ 88 < a → mI (wI M2 18 2 0) a = mI M a := fun a g1 g2 => by rw [mI_wI_ne g1, ← hM2, mI_wI_ne (by omega), mI_wI_ne (by omega), hf1 a (by omega)]
  refine ⟨hS2, fun a ha => hm a (by omega) (by omega), ?_, c2.kp (fun a g1 g2 => hm a (by omega) (by omega)) (kpS_0 (by decide)) (kpS_0 (by decide)) (kpS_ne hi (by decide) (by decide)) (kpS_ne hi (by decide) (by decide)) (kpS_ne hi (by decide) (by decide)), c3.kp (fun a g1 g2 => hm a (by omega) (by omega)) (fun k _ => congrFun (kpS_ne hi (by decide) (by decide)) k), c4.kp (hm _ (by decide) (by decide)) (kpS_ne hi (by decide) (by decide)), c5.kp (hm _ (by decide) (by decide)) (hm _ (by decide) (by decide)) (kpS_ne hi (by decide) (by decide)) (kpS_ne hi (by decide) (by decide)), ?_, o, ho, ?_, fun k hk hkn => ?_⟩
  · have h0 := c1
    unfold RC0 at h0 ⊢
    rw [hm (chL b) (by omega) (by omega), hm 0 (by decide) (by decide), hm 92 (by decide) (by decide), hm 1 (by decide) (by decide), hm 89 (by decide) (by decide), mI_wI, if_pos ⟨rfl, rfl⟩, kpS_06, kpS_0 (by decide), kpS_0 (by decide), kpS_0 (by decide), kpS_0 (by decide), kpS_0 (by decide), kpS_0 (by decide), kpS_0 (by decide), kpS_ne hi (by decide) (by decide)]
    exact ⟨h0.1, ⟨h0.2.1.1, h0.2.1.2.1, h0.2.1.2.2.1, rfl, h0.2.1.2.2.2.2⟩, h0.2.2⟩
  · intro k hk
    obtain ⟨g1, g2, g3⟩ := c6 k hk
    refine ⟨?_, ?_, ?_⟩
    · rw [mI_wI_ne (by decide), ← hM2, mI_wI_ne (by decide), mI_wI, kpS_9]
      by_cases h : k = i
      · rw [if_pos ⟨rfl, h⟩, if_pos h]
      · rw [if_neg (fun z => h z.2), if_neg h, hf1 82 (by decide)]
        exact g1
    · rw [kpS_10 hk]
      have hm2 : ∀ a, 83 ≤ a → a ≤ 88 → mI (wI M2 18 2 0) a = mI M1 a := fun a x1 x2 => by rw [mI_wI_ne (by omega), ← hM2, mI_wI_ne (by omega), mI_wI_ne (by omega)]
      by_cases h : k = i
      · rw [if_pos h, h]
        refine SN.kp (M := M1) ?_ (fun a x1 x2 => hm2 a (by omega) (by omega)) (fun _ _ => rfl)
        rw [← hM1]
        exact cpSt_SN (by omega) c3
      · rw [if_neg h]
        refine g2.kp (fun a x1 x2 => ?_) (fun _ _ => rfl)
        rw [hm2 a (by omega) (by omega), ← hM1]
        exact cpSt_fr (by omega)
    · rw [mI_wI_ne (by decide), ← hM2, mI_wI, if_pos ⟨rfl, rfl⟩, hasB_or2 _ i hi k hk, kpS_12 hi]
      by_cases h : k = i
      · rw [if_pos h]
        simp [h]
      · rw [if_neg h, g3]
        simp [h]
  · rw [mI_wI, if_neg (by decide), ← hM2, mI_wI_ne (by decide), mI_wI_ne (by decide), hf1 18 (by decide)]
    exact eo
  · rw [kpS_06, show (0 : Int32) = nI 0 from rfl, nI_ltE (by omega) (by omega)] at hkn
    exact absurd hkn (by omega)
