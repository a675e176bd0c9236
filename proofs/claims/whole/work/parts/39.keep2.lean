/-! keep: the model, and what both refuse -/
theorem M_keep1 {d i : Nat} {b : Bool} {σ : Sg} {M : ab_M} (hd : 2 ≤ d) (hS : Sh b M) (hM : RM M σ) (hi : i < 2) : EvD d 178 [.ref 102, .int (nI i)] M (fun r M' => r = some (.int 1) ∧ Sh b M' ∧ frM M M' ∧ RM M' (kpS σ i)) := by
  obtain ⟨m1, m2, m3, m4, m5, m6, m7⟩ := hM
  have hx : (0 ≤ nI i ∧ nI i ≤ 1) = True := by
    apply eq_true
    have h : ∀ i, i < 2 → (0 : Int32) ≤ nI i ∧ nI i ≤ 1 := by decide +kernel
    exact h i hi
  have ci : (nI i).toNatClampNeg = i := nI_clamp (by omega)
  have ii : inX (nI i) 2 = True := eq_true (inX_nI (by decide) hi)
  have e14 : 14 * nI i = nI (14 * i) := pk_mul 14 i
  have h28 : mI M 102 28 = σ 0 4 := m1.2.1.2.1
  rw [b_178 hd]
  simp +decide only [e_178_0, e_178_1, e_178_2, e_178_3, e_178_6, e_178_9, e_178_11, e_178_12, e_178_13, e_178_16, e_178_17, e_178_18, e_178_21, e_178_23, e_178_24, e_178_25, ↓reduceIte, Int32.reduceAdd, Int32.reduceSub, an_0, an_1, an_2, an_3, an_4, an_5, tc_0, tc_1, tc_2, tc_3, tc_4, tc_5, tc_6, tc_7, tc_8, tc_9, tc_10, tc_11, tc_12, tc_13, tc_14, tc_15, tc_16, tc_17, tc_18, tc_19, tc_20, tc_21, tc_22, tc_23, tc_24, tc_25, tc_26, tc_27, tc_28, tc_29, tc_30, tc_31, tc_32, lcl_none, lcl_int, lcl_ref, lcl_null, lcl_long, okR_nil, okR_int, okR_ref, okR_null, okR_long, pushR_some, pushR_none, va_rf_some, va_rf_none, true_and, and_true, true_implies, false_implies, not_true_eq_false, not_false_eq_true, implies_true, bI_eq0, bI_eq1, bI_01, Classical.not_not, or_em, false_and, and_false, hS.1, hS.2.1, hS.2.2.1, hS.2.2.2.1, kT_102, kT_103, kT_104, kT_105, kT_106, kT_107, kT_108, kT_109, kT_110, kT_111, kT_112, kT_113, kT_114, kT_115, kT_116, kT_117, kT_118, kT_119, kT_120, nT_103, nT_104, nT_105, nT_106, nT_107, nT_108, nT_109, nT_110, nT_111, nT_112, nT_113, nT_114, nT_115, nT_116, nT_117, nT_118, nT_119, nT_120, rT_102_1, rT_102_12, rT_102_13, rT_102_14, rT_102_18, rT_102_19, rT_102_20, rT_102_21, rT_102_22, rT_102_23, rT_102_25, rT_102_26, rT_102_27, rT_102_30, rT_102_31, rT_102_32, rT_102_33, rT_102_34, c_in (d := 1) (by decide), hx, e14]
  refine c_copyM (x := 111) (f := 0) (y := 113) (t := 14 * i) (nx := 14) (ny := 28) (Nat.le_refl 1) (by decide) (by rw [hS.1]; rfl) (by rw [hS.1]; rfl) (by rw [hS.2.1]; rfl) (by rw [hS.2.1]; rfl) (by decide) (by omega) (by decide) (by decide) (fun M2 hc => ?_)
  have hS2 := hc.sh hS
  obtain ⟨g1, g2, -⟩ := hc
  have h2 : mI M2 102 28 = σ 0 4 := by rw [g2 102 (by decide)]; exact h28
  simp +decide only [e_178_28, e_178_29, e_178_32, e_178_33, e_178_34, e_178_37, e_178_38, e_178_39, e_178_42, e_178_43, e_178_44, e_178_45, e_178_46, e_178_47, e_178_50, e_178_51, ↓reduceIte, Int32.reduceAdd, Int32.reduceSub, an_0, an_1, an_2, an_3, an_4, an_5, tc_0, tc_1, tc_2, tc_3, tc_4, tc_5, tc_6, tc_7, tc_8, tc_9, tc_10, tc_11, tc_12, tc_13, tc_14, tc_15, tc_16, tc_17, tc_18, tc_19, tc_20, tc_21, tc_22, tc_23, tc_24, tc_25, tc_26, tc_27, tc_28, tc_29, tc_30, tc_31, tc_32, lcl_none, lcl_int, lcl_ref, lcl_null, lcl_long, okR_nil, okR_int, okR_ref, okR_null, okR_long, pushR_some, pushR_none, va_rf_some, va_rf_none, true_and, and_true, true_implies, false_implies, not_true_eq_false, not_false_eq_true, implies_true, bI_eq0, bI_eq1, bI_01, Classical.not_not, or_em, false_and, and_false, mI_wI, mI_wJ, mI_wR, mJ_wI, mJ_wJ, mJ_wR, mR_wI, mR_wJ, mR_wR, mK_wI, mK_wJ, mK_wR, mN_wI, mN_wJ, mN_wR, mZ_wI, mZ_wJ, mZ_wR, hS2.1, hS2.2.1, hS2.2.2.1, kT_102, kT_103, kT_104, kT_105, kT_106, kT_107, kT_108, kT_109, kT_110, kT_111, kT_112, kT_113, kT_114, kT_115, kT_116, kT_117, kT_118, kT_119, kT_120, nT_103, nT_104, nT_105, nT_106, nT_107, nT_108, nT_109, nT_110, nT_111, nT_112, nT_113, nT_114, nT_115, nT_116, nT_117, nT_118, nT_119, nT_120, rT_102_1, rT_102_12, rT_102_13, rT_102_14, rT_102_18, rT_102_19, rT_102_20, rT_102_21, rT_102_22, rT_102_23, rT_102_25, rT_102_26, rT_102_27, rT_102_30, rT_102_31, rT_102_32, rT_102_33, rT_102_34, ci, ii, h2]
  have hm : ∀ a, a ≠ 102 → a < 113 ∨ 115 < a → mI (wI (wI (wI M2 114 i (σ 0 4)) 115 i 1) 102 24 0) a = mI M a := fun a h1 h2 => by rw [mI_wI_ne h1, mI_wI_ne (by omega), mI_wI_ne (by omega), g2 a (by omega)]
  have h02 : ∀ k, k ≠ 24 → mI (wI (wI (wI M2 114 i (σ 0 4)) 115 i 1) 102 24 0) 102 k = mI M 102 k := fun k hk => by rw [mI_wI, if_neg (fun z => hk z.2), mI_wI_ne (by decide), mI_wI_ne (by decide), g2 102 (by decide)]
  refine ⟨hS2, fun a ha => hm a (by omega) (by omega), ?_, m2.kp (fun a h1 h2 => hm a (by omega) (by omega)) (kpS_0 (by decide)) (kpS_0 (by decide)) (kpS_ne hi (by decide) (by decide)) (kpS_ne hi (by decide) (by decide)) (kpS_ne hi (by decide) (by decide)), m3.kp (hm _ (by decide) (by decide)) (kpS_ne hi (by decide) (by decide)), m4.kp (hm _ (by decide) (by decide)) (kpS_ne hi (by decide) (by decide)), m5.kp (hm _ (by decide) (by decide)) (kpS_ne hi (by decide) (by decide)) (kpS_ne hi (by decide) (by decide)), ?_, ?_⟩
  · have h0 := m1
    unfold RM0 at h0 ⊢
    rw [h02 16 (by decide), h02 17 (by decide), h02 15 (by decide), h02 7 (by decide), h02 28 (by decide), h02 0 (by decide), h02 29 (by decide), hm 107 (by decide) (by decide), mI_wI, if_pos ⟨rfl, rfl⟩, kpS_06, kpS_0 (by decide), kpS_0 (by decide), kpS_0 (by decide), kpS_0 (by decide), kpS_0 (by decide), kpS_0 (by decide), kpS_0 (by decide), kpS_ne hi (by decide) (by decide)]
    exact ⟨h0.1, ⟨h0.2.1.1, h0.2.1.2.1, h0.2.1.2.2.1, rfl, h0.2.1.2.2.2.2⟩, h0.2.2⟩
  · intro k hk
    obtain ⟨q1, q2, q3⟩ := m6 k hk
    refine ⟨?_, fun x hx => ?_, ?_⟩
    · rw [mI_wI_ne (by decide), mI_wI_ne (by decide), mI_wI, kpS_9]
      by_cases h : k = i
      · rw [if_pos ⟨rfl, h⟩, if_pos h]
      · rw [if_neg (fun z => h z.2), if_neg h, g2 114 (by decide)]
        exact q1
    · rw [mI_wI_ne (by decide), mI_wI_ne (by decide), mI_wI_ne (by decide), g1, kpS_10 hk]
      by_cases h : k = i
      · rw [if_pos (by omega), if_pos h, h, show 0 + (14 * i + x - 14 * i) = x by omega]
        exact m3 x hx
      · rw [if_neg (by omega), if_neg h]
        exact q2 x hx
    · rw [mI_wI_ne (by decide), mI_wI, kpS_12 hi]
      by_cases h : k = i
      · rw [if_pos ⟨rfl, h⟩, if_pos h]
      · rw [if_neg (fun z => h z.2), if_neg h, mI_wI_ne (by decide), g2 115 (by decide)]
        exact q3
  · intro k hk hkn
    rw [kpS_06, show (0 : Int32) = nI 0 from rfl, nI_ltE (by omega) (by omega)] at hkn
    exact absurd hkn (by omega)
theorem le1 {s : Int32} : (0 ≤ s ∧ s ≤ 1) = (0 ≤ s ∧ s < 2) := by
  apply propext
  rw [Int32.le_iff_toInt_le, Int32.le_iff_toInt_le, Int32.lt_iff_toInt_lt]
  have h1 : (1 : Int32).toInt = 1 := by decide
  have h2 : (2 : Int32).toInt = 2 := by decide
  rw [h1, h2]
  omega
theorem op_keep (s : Int32) (M : ab_M) (hM : Rel M) : lwStep Rel 99 178 [s] M := by
  obtain ⟨b, σ, L, P, hS, hC, hMo, hI⟩ := hM
  by_cases hs : 0 ≤ s ∧ s < 2
  · obtain ⟨i, hi, rfl⟩ := of_ix (P := 2) (by decide) hs
    exact GT hS hMo (IV_kp hI hi) 1 (C_keep1 (by decide) hS hC hi) (fun M1 hS1 hM1 => M_keep1 (by decide) hS1 hM1 hi)
  · have hs' : (0 ≤ s ∧ s < 2) = False := eq_false hs
    refine RO hS hC hMo hI (-2000000001) ?_ (fun M1 hS1 hM1 => ?_)
    · show EvD 20 99 [.ref 0, .int s] M _
      rw [b_99 (by decide)]
      simp +decide only [e_99_0, e_99_1, e_99_4, e_99_5, e_99_8, e_99_11, e_99_13, e_99_14, e_99_15, e_99_18, e_99_19, e_99_20, e_99_23, e_99_24, e_99_27, e_99_30, e_99_31, e_99_34, e_99_37, e_99_38, ↓reduceIte, Int32.reduceAdd, Int32.reduceSub, an_0, an_1, an_2, an_3, an_4, an_5, tc_0, tc_1, tc_2, tc_3, tc_4, tc_5, tc_6, tc_7, tc_8, tc_9, tc_10, tc_11, tc_12, tc_13, tc_14, tc_15, tc_16, tc_17, tc_18, tc_19, tc_20, tc_21, tc_22, tc_23, tc_24, tc_25, tc_26, tc_27, tc_28, tc_29, tc_30, tc_31, tc_32, lcl_none, lcl_int, lcl_ref, lcl_null, lcl_long, okR_nil, okR_int, okR_ref, okR_null, okR_long, pushR_some, pushR_none, va_rf_some, va_rf_none, true_and, and_true, true_implies, false_implies, not_true_eq_false, not_false_eq_true, implies_true, bI_eq0, bI_eq1, bI_01, Classical.not_not, or_em, false_and, and_false, hS.1, hS.2.1, hS.2.2.1, hS.2.2.2.1, kT_0, kT_1, kT_2, kT_15, kT_16, kT_17, kT_18, kT_19, kT_80, kT_81, kT_82, kT_89, kT_90, kT_91, kT_92, kT_93, kT_94, kT_95, kT_96, kT_97, kT_98, kT_99, kT_100, kT_101, nT_2, nT_16, nT_17, nT_19, nT_81, nT_82, nT_90, nT_91, nT_94, nT_95, nT_97, nT_98, nT_100, nT_101, rT_0_0, rT_0_3, rT_0_4, rT_0_5, rT_0_6, rT_0_7, rT_0_8, rT_0_9, rT_0_10, rT_1_0, rT_15_0, rT_15_1, rT_18_0, rT_80_0, rT_80_1, rT_89_0, rT_89_1, rT_93_6, rT_93_7, rT_96_0, rT_96_1, rT_99_0, rT_99_1, chS1, chK, chR7, chK7, chN7, chR8, chK8, chN8, chR9, chK9, chN9, chR10, chK10, chN10, chR11, chK11, chN11, c_has4 (d := 2) (by decide) hS, hs']
      exact hS
    · show EvD 20 178 [.ref 102, .int s] M1 _
      rw [b_178 (by decide)]
      simp +decide only [e_178_0, e_178_1, e_178_2, e_178_3, e_178_6, e_178_9, e_178_11, e_178_12, e_178_13, e_178_16, e_178_17, e_178_18, e_178_21, e_178_23, e_178_24, e_178_25, e_178_28, e_178_29, e_178_32, e_178_33, e_178_34, e_178_37, e_178_38, e_178_39, e_178_42, e_178_43, e_178_44, e_178_45, e_178_46, e_178_47, e_178_50, e_178_51, ↓reduceIte, Int32.reduceAdd, Int32.reduceSub, an_0, an_1, an_2, an_3, an_4, an_5, tc_0, tc_1, tc_2, tc_3, tc_4, tc_5, tc_6, tc_7, tc_8, tc_9, tc_10, tc_11, tc_12, tc_13, tc_14, tc_15, tc_16, tc_17, tc_18, tc_19, tc_20, tc_21, tc_22, tc_23, tc_24, tc_25, tc_26, tc_27, tc_28, tc_29, tc_30, tc_31, tc_32, lcl_none, lcl_int, lcl_ref, lcl_null, lcl_long, okR_nil, okR_int, okR_ref, okR_null, okR_long, pushR_some, pushR_none, va_rf_some, va_rf_none, true_and, and_true, true_implies, false_implies, not_true_eq_false, not_false_eq_true, implies_true, bI_eq0, bI_eq1, bI_01, Classical.not_not, or_em, false_and, and_false, hS1.1, hS1.2.1, hS1.2.2.1, kT_102, kT_103, kT_104, kT_105, kT_106, kT_107, kT_108, kT_109, kT_110, kT_111, kT_112, kT_113, kT_114, kT_115, kT_116, kT_117, kT_118, kT_119, kT_120, nT_103, nT_104, nT_105, nT_106, nT_107, nT_108, nT_109, nT_110, nT_111, nT_112, nT_113, nT_114, nT_115, nT_116, nT_117, nT_118, nT_119, nT_120, rT_102_1, rT_102_12, rT_102_13, rT_102_14, rT_102_18, rT_102_19, rT_102_20, rT_102_21, rT_102_22, rT_102_23, rT_102_25, rT_102_26, rT_102_27, rT_102_30, rT_102_31, rT_102_32, rT_102_33, rT_102_34, c_in (d := 1) (by decide), le1, hs']
      exact hS1
