/-! calls that are told at once -/
theorem op_fault (M : ab_M) (hM : Rel M) : lwStep Rel 75 135 [] M := by
  obtain ⟨b, σ, L, P, hS, hC, hMo, hI⟩ := hM
  show EvD 20 75 [.ref 0] M _
  rw [b_75 (by decide)]
  simp +decide only [e_75_0, e_75_1, e_75_4, ↓reduceIte, Int32.reduceAdd, Int32.reduceSub, an_0, an_1, an_2, an_3, an_4, an_5, tc_0, tc_1, tc_2, tc_3, tc_4, tc_5, tc_6, tc_7, tc_8, tc_9, tc_10, tc_11, tc_12, tc_13, tc_14, tc_15, tc_16, tc_17, tc_18, tc_19, tc_20, tc_21, tc_22, tc_23, tc_24, tc_25, tc_26, tc_27, tc_28, tc_29, tc_30, tc_31, tc_32, lcl_none, lcl_int, lcl_ref, lcl_null, lcl_long, okR_nil, okR_int, okR_ref, okR_null, okR_long, pushR_some, pushR_none, va_rf_some, va_rf_none, true_and, and_true, true_implies, false_implies, not_true_eq_false, not_false_eq_true, implies_true, bI_eq0, bI_eq1, bI_01, Classical.not_not, or_em, false_and, and_false, hS.1, hS.2.1, hS.2.2.1, hS.2.2.2.1, kT_0, kT_1, kT_2, kT_3, kT_4, kT_5, kT_6, kT_7, kT_8, kT_9, kT_10, kT_11, kT_12, kT_13, kT_14, kT_15, kT_16, kT_17, kT_18, kT_19, kT_80, kT_81, kT_82, kT_89, kT_90, kT_91, kT_92, kT_93, kT_94, kT_95, kT_96, kT_97, kT_98, kT_99, kT_100, kT_101, nT_2, nT_4, nT_5, nT_6, nT_7, nT_8, nT_10, nT_11, nT_12, nT_13, nT_14, nT_16, nT_17, nT_19, nT_81, nT_82, nT_90, nT_91, nT_94, nT_95, nT_97, nT_98, nT_100, nT_101, rT_0_0, rT_0_1, rT_0_2, rT_0_3, rT_0_4, rT_0_5, rT_0_6, rT_0_7, rT_0_8, rT_0_9, rT_0_10, rT_1_0, rT_3_7, rT_3_8, rT_3_9, rT_3_10, rT_3_11, rT_9_7, rT_9_8, rT_9_9, rT_9_10, rT_9_11, rT_15_0, rT_15_1, rT_18_0, rT_80_0, rT_80_1, rT_89_0, rT_89_1, rT_93_6, rT_93_7, rT_96_0, rT_96_1, rT_99_0, rT_99_1, cond_t, cond_f]
  refine ⟨_, b, rfl, hS, ?_⟩
  show EvD 20 135 [.ref 102] M _
  rw [b_135 (by decide)]
  simp +decide only [e_135_0, e_135_1, e_135_4, ↓reduceIte, Int32.reduceAdd, Int32.reduceSub, an_0, an_1, an_2, an_3, an_4, an_5, tc_0, tc_1, tc_2, tc_3, tc_4, tc_5, tc_6, tc_7, tc_8, tc_9, tc_10, tc_11, tc_12, tc_13, tc_14, tc_15, tc_16, tc_17, tc_18, tc_19, tc_20, tc_21, tc_22, tc_23, tc_24, tc_25, tc_26, tc_27, tc_28, tc_29, tc_30, tc_31, tc_32, lcl_none, lcl_int, lcl_ref, lcl_null, lcl_long, okR_nil, okR_int, okR_ref, okR_null, okR_long, pushR_some, pushR_none, va_rf_some, va_rf_none, true_and, and_true, true_implies, false_implies, not_true_eq_false, not_false_eq_true, implies_true, bI_eq0, bI_eq1, bI_01, Classical.not_not, or_em, false_and, and_false, hS.1, hS.2.1, hS.2.2.1, hS.2.2.2.1, kT_102, kT_103, kT_104, kT_105, kT_106, kT_107, kT_108, kT_109, kT_110, kT_111, kT_112, kT_113, kT_114, kT_115, kT_116, kT_117, kT_118, kT_119, kT_120, nT_103, nT_104, nT_105, nT_106, nT_107, nT_108, nT_109, nT_110, nT_111, nT_112, nT_113, nT_114, nT_115, nT_116, nT_117, nT_118, nT_119, nT_120, rT_102_1, rT_102_12, rT_102_13, rT_102_14, rT_102_18, rT_102_19, rT_102_20, rT_102_21, rT_102_22, rT_102_23, rT_102_25, rT_102_26, rT_102_27, rT_102_30, rT_102_31, rT_102_32, rT_102_33, rT_102_34]
  exact ⟨by rw [hC.1.2.1.1, hMo.1.2.1.1], b, σ, L, P, hS, hC, hMo, hI⟩
theorem op_seed (v : Int32) (M : ab_M) (hM : Rel M) : lwStep Rel 98 177 [v] M := by
  have hM0 := hM
  obtain ⟨b, σ, L, P, hS, hC, hMo, hI⟩ := hM
  show EvD 20 98 [.ref 0, .int v] M _
  rw [c_seedC (by decide) hS]
  by_cases h1 : 0 ≤ v
  · rw [if_pos h1]
    refine ⟨_, b, rfl, hS, ?_⟩
    have hS1 : Sh b (wI M 92 0 v) := hS
    show EvD 20 177 [.ref 102, .int v] _ _
    rw [c_seedM (by decide) hS1, if_pos h1]
    have hb := chL_cases b
    have hC1 : RC b (wI M 92 0 v) (u2 σ 0 4 v) := by
      refine RC_sc hC (fun a ha => mI_wI_ne (by omega)) (congrFun (mI_wI_ne (by decide)) 1) ?_ (fun j hj => u2_ne hj) (u2_nk (by decide)) (u2_nk (by decide)) (u2_nk (by decide))
      have h0 := hC.1
      rcases hb with e | e <;> simp only [RC0, e] at h0 ⊢ <;> simp [mI_wI, u2, h0]
    have hM1 : RM (wI (wI M 92 0 v) 102 28 v) (u2 σ 0 4 v) := by
      refine RM_sc (hMo.kp (frC_wI (by decide))) (fun a ha => mI_wI_ne (by omega)) ?_ (fun j hj => u2_ne hj) (u2_nk (by decide)) (u2_nk (by decide)) (u2_nk (by decide))
      have h0 := hMo.1
      simp only [RM0] at h0 ⊢
      simp [mI_wI, u2, h0]
    have hI1 : IV L P (u2 σ 0 4 v) := by
      simp only [IV] at hI ⊢
      simp [u2, hI, h1]
      sorry
    exact ⟨by rw [mI_wI_ne (by decide), hC.1.2.1.2.1, hMo.1.2.1.2.1], b, u2 σ 0 4 v, L, P, hS, hC1.kp (frM_wI (by decide)), hM1, hI1⟩
  · rw [if_neg h1]
    refine ⟨_, b, rfl, hS, ?_⟩
    show EvD 20 177 [.ref 102, .int v] _ _
    rw [c_seedM (by decide) hS, if_neg h1]
    exact ⟨rfl, hM0⟩
