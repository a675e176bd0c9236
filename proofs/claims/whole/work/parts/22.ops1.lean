/-! calls that are told at once -/
theorem op_fault (M : ab_M) (hM : Rel M) : lwStep Rel 75 135 [] M := by
  obtain ⟨b, σ, L, P, hS, hC, hMo, hI⟩ := hM
  show EvD 20 75 [.ref 0] M _
  rw [b_75 (by decide)]
  simp +decide only [e_75_0, e_75_1, e_75_4, ↓reduceIte, Int32.reduceAdd, Int32.reduceSub, an_0, an_1, an_2, an_3, an_4, an_5, tc_0, tc_1, tc_2, tc_3, tc_4, tc_5, tc_6, tc_7, tc_8, tc_9, tc_10, tc_11, tc_12, tc_13, tc_14, tc_15, tc_16, tc_17, tc_18, tc_19, tc_20, tc_21, tc_22, tc_23, tc_24, tc_25, tc_26, tc_27, tc_28, tc_29, tc_30, tc_31, tc_32, lcl_none, lcl_int, lcl_ref, lcl_null, lcl_long, okR_nil, okR_int, okR_ref, okR_null, okR_long, pushR_some, pushR_none, va_rf_some, va_rf_none, true_and, and_true, true_implies, false_implies, not_true_eq_false, not_false_eq_true, implies_true, bI_eq0, bI_eq1, bI_01, Classical.not_not, or_em, false_and, and_false, hS.1, hS.2.1, hS.2.2.1, hS.2.2.2.1, kT_0, kT_1, kT_2, kT_3, kT_4, kT_5, kT_6, kT_7, kT_8, kT_9, kT_10, kT_11, kT_12, kT_13, kT_14, kT_15, kT_16, kT_17, kT_18, kT_19, kT_80, kT_81, kT_82, kT_89, kT_90, kT_91, kT_92, kT_93, kT_94, kT_95, kT_96, kT_97, kT_98, kT_99, kT_100, kT_101, nT_2, nT_4, nT_5, nT_6, nT_7, nT_8, nT_10, nT_11, nT_12, nT_13, nT_14, nT_16, nT_17, nT_19, nT_81, nT_82, nT_90, nT_91, nT_94, nT_95, nT_97, nT_98, nT_100, nT_101, rT_0_0, rT_0_1, rT_0_2, rT_0_3, rT_0_4, rT_0_5, rT_0_6, rT_0_7, rT_0_8, rT_0_9, rT_0_10, rT_1_0, rT_3_7, rT_3_8, rT_3_9, rT_3_10, rT_3_11, rT_9_7, rT_9_8, rT_9_9, rT_9_10, rT_9_11, rT_15_0, rT_15_1, rT_18_0, rT_80_0, rT_80_1, rT_89_0, rT_89_1, rT_93_6, rT_93_7, rT_96_0, rT_96_1, rT_99_0, rT_99_1, cond_t, cond_f]
  refine ⟨_, b, rfl, hS, ?_⟩
  show EvD 20 135 [.ref 102] M _
  rw [b_135 (by decide)]
  simp +decide only [e_135_0, e_135_1, e_135_4, ↓reduceIte, Int32.reduceAdd, Int32.reduceSub, an_0, an_1, an_2, an_3, an_4, an_5, tc_0, tc_1, tc_2, tc_3, tc_4, tc_5, tc_6, tc_7, tc_8, tc_9, tc_10, tc_11, tc_12, tc_13, tc_14, tc_15, tc_16, tc_17, tc_18, tc_19, tc_20, tc_21, tc_22, tc_23, tc_24, tc_25, tc_26, tc_27, tc_28, tc_29, tc_30, tc_31, tc_32, lcl_none, lcl_int, lcl_ref, lcl_null, lcl_long, okR_nil, okR_int, okR_ref, okR_null, okR_long, pushR_some, pushR_none, va_rf_some, va_rf_none, true_and, and_true, true_implies, false_implies, not_true_eq_false, not_false_eq_true, implies_true, bI_eq0, bI_eq1, bI_01, Classical.not_not, or_em, false_and, and_false, hS.1, hS.2.1, hS.2.2.1, hS.2.2.2.1, kT_102, kT_103, kT_104, kT_105, kT_106, kT_107, kT_108, kT_109, kT_110, kT_111, kT_112, kT_113, kT_114, kT_115, kT_116, kT_117, kT_118, kT_119, kT_120, nT_103, nT_104, nT_105, nT_106, nT_107, nT_108, nT_109, nT_110, nT_111, nT_112, nT_113, nT_114, nT_115, nT_116, nT_117, nT_118, nT_119, nT_120, rT_102_1, rT_102_12, rT_102_13, rT_102_14, rT_102_18, rT_102_19, rT_102_20, rT_102_21, rT_102_22, rT_102_23, rT_102_25, rT_102_26, rT_102_27, rT_102_30, rT_102_31, rT_102_32, rT_102_33, rT_102_34]
  exact ⟨by rw [hC.1.2.1.1, hMo.1.2.1.1], b, σ, L, P, hS, hC, hMo, hI⟩
theorem op_seed (v : Int32) (M : ab_M) (hM : Rel M) : lwStep Rel 98 177 [v] M := by
  have hM0 := hM
  obtain ⟨b, σ, L, P, hS, hC, hMo, hI⟩ := hM
  show EvD 20 98 [.ref 0, .int v] M _
  rw [c_seedC (by decide) hS]
  by_cases h1 : 0 ≤ v
  · rw [if_pos h1]
    refine ⟨_, b, rfl, hS, ?_⟩
    have hS1 : Sh b (wI M 92 0 v) := hS
    show EvD 20 177 [.ref 102, .int v] _ _
    rw [c_seedM (by decide) hS1, if_pos h1]
    have hb := chL_cases b
    have hC1 : RC b (wI M 92 0 v) (u2 σ 0 4 v) := by
      refine RC_sc hC (fun a ha => mI_wI_ne (by omega)) (congrFun (mI_wI_ne (by decide)) 1) ?_ (fun j hj => u2_ne hj) (u2_nk (by decide)) (u2_nk (by decide)) (u2_nk (by decide))
      have h0 := hC.1
      rcases hb with e | e <;> simp only [RC0, e] at h0 ⊢ <;> simp [mI_wI, u2, h0]
    have hM1 : RM (wI (wI M 92 0 v) 102 28 v) (u2 σ 0 4 v) := by
      refine RM_sc (hMo.kp (frC_wI (by decide))) (fun a ha => mI_wI_ne (by omega)) ?_ (fun j hj => u2_ne hj) (u2_nk (by decide)) (u2_nk (by decide)) (u2_nk (by decide))
      have h0 := hMo.1
      simp only [RM0] at h0 ⊢
      simp [mI_wI, u2, h0]
    have hI1 : IV L P (u2 σ 0 4 v) := IV_sc hI (fun j hj _ _ _ => u2_ne hj) (u2_nk (by decide)) (u2_nk (by decide)) (u2_nk (by decide)) (u2_nk (by decide)) (by rw [u2_at]; exact h1) (by rw [u2_nk (by decide)]; exact hI.2.1) (by rw [u2_nk (by decide), u2_ne (by decide)]; exact hI.2.2.2.1)
    exact ⟨by rw [mI_wI_ne (by decide), hC.1.2.1.2.1, hMo.1.2.1.2.1], b, u2 σ 0 4 v, L, P, hS, hC1.kp (frM_wI (by decide)), hM1, hI1⟩
  · rw [if_neg h1]
    refine ⟨_, b, rfl, hS, ?_⟩
    show EvD 20 177 [.ref 102, .int v] _ _
    rw [c_seedM (by decide) hS, if_neg h1]
    exact ⟨rfl, hM0⟩
theorem op_tear (M : ab_M) (hM : Rel M) : lwStep Rel 96 175 [] M := by
  obtain ⟨b, σ, L, P, hS, hC, hMo, hI⟩ := hM
  show EvD 20 96 [.ref 0] M _
  rw [c_tearC (by decide) hS]
  refine ⟨_, b, rfl, hS, ?_⟩
  have hS1 : Sh b (wI M 89 2 0) := hS
  show EvD 20 175 [.ref 102] _ _
  rw [c_tearM (by decide) hS1]
  have hb := chL_cases b
  have hC1 : RC b (wI M 89 2 0) (u2 σ 0 7 0) := by
    refine RC_sc hC (fun a ha => mI_wI_ne (by omega)) (congrFun (mI_wI_ne (by decide)) 1) ?_ (fun j hj => u2_ne hj) (u2_nk (by decide)) (u2_nk (by decide)) (u2_nk (by decide))
    have h0 := hC.1
    rcases hb with e | e <;> simp only [RC0, e] at h0 ⊢ <;> simp [mI_wI, u2, h0]
  have hM1 : RM (wI (wI M 89 2 0) 102 29 0) (u2 σ 0 7 0) := by
    refine RM_sc (hMo.kp (frC_wI (by decide))) (fun a ha => mI_wI_ne (by omega)) ?_ (fun j hj => u2_ne hj) (u2_nk (by decide)) (u2_nk (by decide)) (u2_nk (by decide))
    have h0 := hMo.1
    simp only [RM0] at h0 ⊢
    simp [mI_wI, u2, h0]
  have hI1 : IV L P (u2 σ 0 7 0) := IV_sc hI (fun j hj _ _ _ => u2_ne hj) (u2_nk (by decide)) (u2_nk (by decide)) (u2_nk (by decide)) (u2_nk (by decide)) (by rw [u2_nk (by decide)]; exact hI.1.2.2.2.2.2) (by rw [u2_nk (by decide)]; exact hI.2.1) ⟨0, by decide, by rw [u2_at]; rfl, fun i hi => absurd hi (Nat.not_lt_zero i)⟩
  exact ⟨by rw [mI_wI_ne (by decide), hC.1.2.1.2.2.2.2, hMo.1.2.1.2.2.2.2], b, u2 σ 0 7 0, L, P, hS, hC1.kp (frM_wI (by decide)), hM1, hI1⟩
theorem c_feedM {d n : Nat} {b : Bool} {v : Int32} {M : ab_M} {K : ab_Q} (hd : 2 ≤ d) (hS : Sh b M) (hn : mI M 102 0 = nI n) (hn2 : n ≤ 220) : EvD d 124 [.ref 102, .int v] M K = (if 0 ≤ v ∧ v ≤ 255 then (if n = 220 then K (some (.int (-2000000004))) M else K (some (.int (nI (n + 1)))) (wI (wI M 103 n v) 102 0 (nI (n + 1)))) else K (some (.int (-2000000002))) M) := by
  rw [b_124 hd]
  have e1 : (nI n = 220) = (n = 220) := nI_eqE (b := 220) (by omega) (by decide)
  have e2 : (nI n).toNatClampNeg = n := nI_clamp (by omega)
  simp +decide only [e_124_0, e_124_1, e_124_2, e_124_5, e_124_8, e_124_11, e_124_13, e_124_14, e_124_15, e_124_18, e_124_21, e_124_24, e_124_26, e_124_27, e_124_28, e_124_31, e_124_32, e_124_35, e_124_36, e_124_37, e_124_38, e_124_38r, e_124_39, e_124_42, e_124_43, e_124_44, e_124_47, e_124_48, e_124_51, ↓reduceIte, Int32.reduceAdd, Int32.reduceSub, an_0, an_1, an_2, an_3, an_4, an_5, tc_0, tc_1, tc_2, tc_3, tc_4, tc_5, tc_6, tc_7, tc_8, tc_9, tc_10, tc_11, tc_12, tc_13, tc_14, tc_15, tc_16, tc_17, tc_18, tc_19, tc_20, tc_21, tc_22, tc_23, tc_24, tc_25, tc_26, tc_27, tc_28, tc_29, tc_30, tc_31, tc_32, lcl_none, lcl_int, lcl_ref, lcl_null, lcl_long, okR_nil, okR_int, okR_ref, okR_null, okR_long, pushR_some, pushR_none, va_rf_some, va_rf_none, true_and, and_true, true_implies, false_implies, not_true_eq_false, not_false_eq_true, implies_true, bI_eq0, bI_eq1, bI_01, Classical.not_not, or_em, false_and, and_false, hS.1, hS.2.1, hS.2.2.1, hS.2.2.2.1, kT_102, kT_103, kT_104, kT_105, kT_106, kT_107, kT_108, kT_109, kT_110, kT_111, kT_112, kT_113, kT_114, kT_115, kT_116, kT_117, kT_118, kT_119, kT_120, nT_103, nT_104, nT_105, nT_106, nT_107, nT_108, nT_109, nT_110, nT_111, nT_112, nT_113, nT_114, nT_115, nT_116, nT_117, nT_118, nT_119, nT_120, rT_102_1, rT_102_12, rT_102_13, rT_102_14, rT_102_18, rT_102_19, rT_102_20, rT_102_21, rT_102_22, rT_102_23, rT_102_25, rT_102_26, rT_102_27, rT_102_30, rT_102_31, rT_102_32, rT_102_33, rT_102_34, mI_wI, mI_wJ, mI_wR, mJ_wI, mJ_wJ, mJ_wR, mR_wI, mR_wJ, mR_wR, mK_wI, mK_wJ, mK_wR, mN_wI, mN_wJ, mN_wR, mZ_wI, mZ_wJ, mZ_wR, c_in (Nat.le_refl 1), hn, e1, e2, nI_1]
  by_cases h1 : 0 ≤ v ∧ v ≤ 255
  · rw [if_neg (by simp [h1]), if_pos h1]
    by_cases h2 : n = 220
    · rw [if_pos h2, if_pos h2]
    · rw [if_neg h2, if_neg h2]
      have e3 : inX (nI n) 220 = True := eq_true (inX_nI (by decide) (by omega))
      rw [e3, true_and]
  · rw [if_pos h1, if_neg h1]
theorem c_feedC {d n : Nat} {b : Bool} {v : Int32} {M : ab_M} {K : ab_Q} (hd : 2 ≤ d) (hS : Sh b M) (hn : mI M 1 1 = nI n) (hn2 : n ≤ 220) : EvD d 73 [.ref 0, .int v] M K = (if 0 ≤ v ∧ v ≤ 255 then (if n = 220 then K (some (.int (-2000000004))) M else K (some (.int (nI (n + 1)))) (wI (wI M 2 n v) 1 1 (nI (n + 1)))) else K (some (.int (-2000000002))) M) := by
  rw [b_73 hd]
  have e1 : (nI n < 220) = (n < 220) := nI_ltE (b := 220) (by omega) (by decide)
  have e4 : (220 ≤ nI n) = (220 ≤ n) := nI_leE (a := 220) (by decide) (by omega)
  have e5 : (nI n < 0) = False := eq_false (nI_pos (by omega))
  have e2 : (nI n).toNatClampNeg = n := nI_clamp (by omega)
  simp +decide only [e_73_0, e_73_1, e_73_4, e_73_5, e_73_8, e_73_11, e_73_13, e_73_14, e_73_15, e_73_18, e_73_21, e_73_24, e_73_26, e_73_27, e_73_28, e_73_31, e_73_32, e_73_35, ↓reduceIte, Int32.reduceAdd, Int32.reduceSub, an_0, an_1, an_2, an_3, an_4, an_5, tc_0, tc_1, tc_2, tc_3, tc_4, tc_5, tc_6, tc_7, tc_8, tc_9, tc_10, tc_11, tc_12, tc_13, tc_14, tc_15, tc_16, tc_17, tc_18, tc_19, tc_20, tc_21, tc_22, tc_23, tc_24, tc_25, tc_26, tc_27, tc_28, tc_29, tc_30, tc_31, tc_32, lcl_none, lcl_int, lcl_ref, lcl_null, lcl_long, okR_nil, okR_int, okR_ref, okR_null, okR_long, pushR_some, pushR_none, va_rf_some, va_rf_none, true_and, and_true, true_implies, false_implies, not_true_eq_false, not_false_eq_true, implies_true, bI_eq0, bI_eq1, bI_01, Classical.not_not, or_em, false_and, and_false, hS.1, hS.2.1, hS.2.2.1, hS.2.2.2.1, kT_0, kT_1, kT_2, kT_3, kT_4, kT_5, kT_6, kT_7, kT_8, kT_9, kT_10, kT_11, kT_12, kT_13, kT_14, kT_15, kT_16, kT_17, kT_18, kT_19, kT_80, kT_81, kT_82, kT_89, kT_90, kT_91, kT_92, kT_93, kT_94, kT_95, kT_96, kT_97, kT_98, kT_99, kT_100, kT_101, nT_2, nT_4, nT_5, nT_6, nT_7, nT_8, nT_10, nT_11, nT_12, nT_13, nT_14, nT_16, nT_17, nT_19, nT_81, nT_82, nT_90, nT_91, nT_94, nT_95, nT_97, nT_98, nT_100, nT_101, rT_0_0, rT_0_1, rT_0_2, rT_0_3, rT_0_4, rT_0_5, rT_0_6, rT_0_7, rT_0_8, rT_0_9, rT_0_10, rT_1_0, rT_3_7, rT_3_8, rT_3_9, rT_3_10, rT_3_11, rT_9_7, rT_9_8, rT_9_9, rT_9_10, rT_9_11, rT_15_0, rT_15_1, rT_18_0, rT_80_0, rT_80_1, rT_89_0, rT_89_1, rT_93_6, rT_93_7, rT_96_0, rT_96_1, rT_99_0, rT_99_1, cond_t, cond_f, mI_wI, mI_wJ, mI_wR, mJ_wI, mJ_wJ, mJ_wR, mR_wI, mR_wJ, mR_wR, mK_wI, mK_wJ, mK_wR, mN_wI, mN_wJ, mN_wR, mZ_wI, mZ_wJ, mZ_wR, b_47 (Nat.le_refl 1), e_47_0, e_47_1, e_47_4, e_47_7, e_47_10, e_47_11, e_47_14, e_47_15, b_48 (Nat.le_refl 1), e_48_0, e_48_1, e_48_4, e_48_7, e_48_8, e_48_11, e_48_14, e_48_17, e_48_18, e_48_21, e_48_22, e_48_25, e_48_26, e_48_27, e_48_28, e_48_28r, e_48_29, e_48_32, e_48_33, e_48_34, e_48_37, e_48_38, e_48_41, hn, e1, e2, e4, e5, nI_1]
  simp only [← Int32.not_le]
  by_cases h0 : 0 ≤ v
  · by_cases h3 : v ≤ 255
    · by_cases h2 : n = 220
      · simp [h0, h3, h2]
      · have e3 : inX (nI n) 220 = True := eq_true (inX_nI (by decide) (by omega))
        have e6 : ¬ 220 ≤ n := by omega
        simp only [h0, h3, h2, e3, e6, not_true_eq_false, not_false_eq_true, if_true, if_false, and_self, true_and]
        simp [show n < 220 by omega]
    · simp [h0, h3]
  · simp [h0]
theorem op_feed (v : Int32) (M : ab_M) (hM : Rel M) : lwStep Rel 73 124 [v] M := by
  have hM0 := hM
  obtain ⟨b, σ, L, P, hS, hC, hMo, hI⟩ := hM
  obtain ⟨n, hn, en⟩ := hI.2.1
  show EvD 20 73 [.ref 0, .int v] M _
  rw [c_feedC (by decide) hS (hC.1.2.1.2.2.1.trans en) hn]
  by_cases h1 : 0 ≤ v ∧ v ≤ 255
  · rw [if_pos h1]
    by_cases h2 : n = 220
    · rw [if_pos h2]
      refine ⟨_, b, rfl, hS, ?_⟩
      show EvD 20 124 [.ref 102, .int v] _ _
      rw [c_feedM (by decide) hS (hMo.1.2.1.2.2.1.trans en) hn, if_pos h1, if_pos h2]
      exact ⟨rfl, hM0⟩
    · rw [if_neg h2]
      generalize hM1 : wI (wI M 2 n v) 1 1 (nI (n + 1)) = M1
      have f1 : frC M M1 := by rw [← hM1]; exact (frC_wI (by decide)).tr (frC_wI (by decide))
      have hS1 : Sh b M1 := by rw [← hM1]; exact hS
      have hMo1 := hMo.kp f1
      refine ⟨_, b, rfl, hS1, ?_⟩
      show EvD 20 124 [.ref 102, .int v] _ _
      rw [c_feedM (by decide) hS1 (hMo1.1.2.1.2.2.1.trans en) hn, if_pos h1, if_neg h2]
      generalize hM2 : wI (wI M1 103 n v) 102 0 (nI (n + 1)) = M2
      have f2 : frM M1 M2 := by rw [← hM2]; exact (frM_wI (by decide)).tr (frM_wI (by decide))
      have hb := chL_cases b
      refine ⟨rfl, b, u2 (u2 σ 6 n v) 0 5 (nI (n + 1)), L, P, by rw [← hM2]; exact hS1, ?_, ?_, ?_⟩
      · refine RC.kp ?_ f2
        obtain ⟨c1, c2, c3, c4, c5, c6, c7⟩ := hC
        have hm : ∀ a, a ≠ 1 → a ≠ 2 → mI M1 a = mI M a := fun a g1 g2 => by rw [← hM1, mI_wI_ne g1, mI_wI_ne g2]
        have hs : ∀ j, j ≠ 0 → j ≠ 6 → u2 (u2 σ 6 n v) 0 5 (nI (n + 1)) j = σ j := fun j g1 g2 => by rw [u2_ne g1, u2_ne g2]
        have h00 : ∀ j, j ≠ 5 → u2 (u2 σ 6 n v) 0 5 (nI (n + 1)) 0 j = σ 0 j := fun j g1 => by rw [u2_nk g1, u2_ne (by decide)]
        refine ⟨?_, c2.kp (fun a g1 g2 => hm a (by omega) (by omega)) (h00 _ (by decide)) (h00 _ (by decide)) (hs _ (by decide) (by decide)) (hs _ (by decide) (by decide)) (hs _ (by decide) (by decide)), c3.kp (fun a g1 g2 => hm a (by omega) (by omega)) (fun k _ => by rw [hs _ (by decide) (by decide)]), ?_, c5.kp (hm _ (by decide) (by decide)) (hm _ (by decide) (by decide)) (hs _ (by decide) (by decide)) (hs _ (by decide) (by decide)), c6.kp (fun a g1 g2 => hm a (by omega) (by omega)) (hs _ (by decide) (by decide)) (hs _ (by decide) (by decide)) (hs _ (by decide) (by decide)) (hs _ (by decide) (by decide)), c7.kp (congrFun (hm _ (by decide) (by decide)) 1) (fun a g1 g2 => hm a (by omega) (by omega)) (h00 _ (by decide)) (fun i _ => hs _ (by omega) (by omega))⟩
        · rw [← hM1]
          rcases hb with e | e <;> simp only [RC0, e] at c1 ⊢ <;> simp [mI_wI, u2, c1]
        · intro k hk
          rw [← hM1, u2_ne (by decide), mI_wI_ne (by decide), mI_wI]
          by_cases hkn : k = n
          · subst hkn
            rw [if_pos ⟨rfl, rfl⟩, u2_at, nnI_of h1.1]
          · rw [if_neg (fun e => hkn e.2), u2_nk hkn]
            exact c4 k hk
      · obtain ⟨c1, c2, c3, c4, c5, c6, c7⟩ := hMo1
        have hm : ∀ a, a ≠ 102 → a ≠ 103 → mI M2 a = mI M1 a := fun a g1 g2 => by rw [← hM2, mI_wI_ne g1, mI_wI_ne g2]
        have hs : ∀ j, j ≠ 0 → j ≠ 6 → u2 (u2 σ 6 n v) 0 5 (nI (n + 1)) j = σ j := fun j g1 g2 => by rw [u2_ne g1, u2_ne g2]
        have h00 : ∀ j, j ≠ 5 → u2 (u2 σ 6 n v) 0 5 (nI (n + 1)) 0 j = σ 0 j := fun j g1 => by rw [u2_nk g1, u2_ne (by decide)]
        refine ⟨?_, c2.kp (fun a g1 g2 => hm a (by omega) (by omega)) (h00 _ (by decide)) (h00 _ (by decide)) (hs _ (by decide) (by decide)) (hs _ (by decide) (by decide)) (hs _ (by decide) (by decide)), c3.kp (hm _ (by decide) (by decide)) (hs _ (by decide) (by decide)), ?_, c5.kp (hm _ (by decide) (by decide)) (hs _ (by decide) (by decide)) (hs _ (by decide) (by decide)), c6.kp (fun a g1 g2 => hm a (by omega) (by omega)) (hs _ (by decide) (by decide)) (hs _ (by decide) (by decide)) (hs _ (by decide) (by decide)) (hs _ (by decide) (by decide)), c7.kp (hm _ (by decide) (by decide)) (h00 _ (by decide)) (fun i _ => hs _ (by omega) (by omega))⟩
        · rw [← hM2]
          simp only [RM0] at c1 ⊢
          simp [mI_wI, u2, c1]
        · intro k hk
          rw [← hM2, u2_ne (by decide), mI_wI_ne (by decide), mI_wI]
          by_cases hkn : k = n
          · subst hkn
            rw [if_pos ⟨rfl, rfl⟩, u2_at, nnI_of h1.1]
          · rw [if_neg (fun e => hkn e.2), u2_nk hkn]
            exact c4 k hk
      · refine IV_sc hI (fun j g1 g2 _ _ => by rw [u2_ne g1, u2_ne g2]) (by rw [u2_nk (by decide), u2_ne (by decide)]) (by rw [u2_nk (by decide), u2_ne (by decide)]) (by rw [u2_nk (by decide), u2_ne (by decide)]) (by rw [u2_nk (by decide), u2_ne (by decide)]) (by rw [u2_nk (by decide), u2_ne (by decide)]; exact hI.1.2.2.2.2.2) ⟨n + 1, by omega, u2_at⟩ ?_
        rw [u2_nk (by decide), u2_ne (by decide), u2_ne (by decide), u2_ne (by decide)]
        exact hI.2.2.2.1
  · rw [if_neg h1]
    refine ⟨_, b, rfl, hS, ?_⟩
    show EvD 20 124 [.ref 102, .int v] _ _
    rw [c_feedM (by decide) hS (hMo.1.2.1.2.2.1.trans en) hn, if_neg h1]
    exact ⟨rfl, hM0⟩
