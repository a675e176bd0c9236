/-! a year passes: the model -/
theorem L_passM {L P a : Nat} {b : Bool} {σ : Sg} {M0 : ab_M} {Q : ab_Q} (hI : IV L P σ) (ha : σ 5 10 = nI a) (ha2 : a < 32) (hQ : ∀ o M1, Sh b M1 → frM M0 M1 → RM M1 (uS σ (paP (σ 5) (fun k => payS σ (σ 1 1) P (nI k) a) P)) → Ev 2 146 33 [some (.ref 102), o] [] M1 Q) : ∀ m i M, i + m = P → Sh b M → frM M0 M → RM M (uS σ (paP (σ 5) (fun k => payS σ (σ 1 1) P (nI k) a) i)) → Ev 2 146 2 [some (.ref 102), some (.int (nI i))] [] M Q := by
  obtain ⟨hL, hP, iL, iP⟩ := IV_n hI
  intro m
  induction m with
  | zero =>
    intro i M hi hS hf hM
    have a2 : mI M 102 17 = nI P := by rw [hM.1.1.2.1, uS_ne (by decide)]; exact iP
    have h1 : (nI P ≤ nI i) = True := by rw [nI_leE (by omega) (by omega)]; exact eq_true (by omega)
    rw [e_146_2]
    simp +decide only [e_146_3, e_146_4, e_146_7, ↓reduceIte, Int32.reduceAdd, Int32.reduceSub, an_0, an_1, an_2, an_3, an_4, an_5, tc_0, tc_1, tc_2, tc_3, tc_4, tc_5, tc_6, tc_7, tc_8, tc_9, tc_10, tc_11, tc_12, tc_13, tc_14, tc_15, tc_16, tc_17, tc_18, tc_19, tc_20, tc_21, tc_22, tc_23, tc_24, tc_25, tc_26, tc_27, tc_28, tc_29, tc_30, tc_31, tc_32, lcl_none, lcl_int, lcl_ref, lcl_null, lcl_long, okR_nil, okR_int, okR_ref, okR_null, okR_long, pushR_some, pushR_none, va_rf_some, va_rf_none, true_and, and_true, true_implies, false_implies, not_true_eq_false, not_false_eq_true, implies_true, bI_eq0, bI_eq1, bI_01, Classical.not_not, or_em, false_and, and_false, hS.1, hS.2.1, hS.2.2.1, hS.2.2.2.1, kT_102, kT_103, kT_104, kT_105, kT_106, kT_107, kT_108, kT_109, kT_110, kT_111, kT_112, kT_113, kT_114, kT_115, kT_116, kT_117, kT_118, kT_119, kT_120, nT_103, nT_104, nT_105, nT_106, nT_107, nT_108, nT_109, nT_110, nT_111, nT_112, nT_113, nT_114, nT_115, nT_116, nT_117, nT_118, nT_119, nT_120, rT_102_1, rT_102_12, rT_102_13, rT_102_14, rT_102_18, rT_102_19, rT_102_20, rT_102_21, rT_102_22, rT_102_23, rT_102_25, rT_102_26, rT_102_27, rT_102_30, rT_102_31, rT_102_32, rT_102_33, rT_102_34, a2, h1]
    rw [show i = P by omega] at hM ⊢
    exact hQ _ M hS hf hM
  | succ m ih =>
    intro i M hi hS hf hM
    have a2 : mI M 102 17 = nI P := by rw [hM.1.1.2.1, uS_ne (by decide)]; exact iP
    have a1 : mI M 102 16 = nI L := by rw [hM.1.1.1, uS_ne (by decide)]; exact iL
    have h1 : (nI P ≤ nI i) = False := by rw [nI_leE (by omega) (by omega)]; exact eq_false (by omega)
    have hN : ∀ k, k < 14 → mI M 111 k = paP (σ 5) (fun k => payS σ (σ 1 1) P (nI k) a) i k := fun k hk => by rw [hM.2.2.1 k hk, uS_5]
    have n10 : mI M 111 10 = nI a := by rw [hN 10 (by decide), paP_ge (by omega)]; exact ha
    have t0 : mI M 107 0 = σ 1 0 := by rw [hM.1.2.2.1, uS_ne (by decide)]
    have t1 : mI M 107 1 = σ 1 1 := by rw [hM.1.2.2.2.1, uS_ne (by decide)]
    have hp : ∀ K, EvD 2 141 [.ref 102, .int (nI i), .int (nI a)] M K = K (some (.int (payS σ (σ 1 1) P (nI i) a))) M := fun K => by
      rw [c_payOfM (Nat.le_refl 2) hS hL hP a1 a2 hN (fun k hk hk2 => by rw [paP_ge (by omega)]; exact hI.2.2.2.2.2.2.2.1.2.1 k hk hk2) (nI_ne_m1 (by omega)) ha2, t0, t1, haN_c (fun k hk => paP_ge (by omega)), hsN_c (fun k hk => paP_ge (by omega))]
      rfl
    have hr : ∀ p K, EvD 2 145 [.ref 102, .int (nI i), .int p] M K = K none (wI M 111 i (capI (mI M 111 i + p))) := fun p K => c_give (d := 2) (by decide) hS (by omega)
    rw [e_146_2]
    simp +decide only [e_146_3, e_146_4, e_146_7, e_146_10, e_146_11, e_146_12, e_146_13, e_146_14, e_146_15, e_146_18, e_146_20, e_146_21, e_146_24, e_146_27, e_146_30, ↓reduceIte, Int32.reduceAdd, Int32.reduceSub, an_0, an_1, an_2, an_3, an_4, an_5, tc_0, tc_1, tc_2, tc_3, tc_4, tc_5, tc_6, tc_7, tc_8, tc_9, tc_10, tc_11, tc_12, tc_13, tc_14, tc_15, tc_16, tc_17, tc_18, tc_19, tc_20, tc_21, tc_22, tc_23, tc_24, tc_25, tc_26, tc_27, tc_28, tc_29, tc_30, tc_31, tc_32, lcl_none, lcl_int, lcl_ref, lcl_null, lcl_long, okR_nil, okR_int, okR_ref, okR_null, okR_long, pushR_some, pushR_none, va_rf_some, va_rf_none, true_and, and_true, true_implies, false_implies, not_true_eq_false, not_false_eq_true, implies_true, bI_eq0, bI_eq1, bI_01, Classical.not_not, or_em, false_and, and_false, hS.1, hS.2.1, hS.2.2.1, hS.2.2.2.1, kT_102, kT_103, kT_104, kT_105, kT_106, kT_107, kT_108, kT_109, kT_110, kT_111, kT_112, kT_113, kT_114, kT_115, kT_116, kT_117, kT_118, kT_119, kT_120, nT_103, nT_104, nT_105, nT_106, nT_107, nT_108, nT_109, nT_110, nT_111, nT_112, nT_113, nT_114, nT_115, nT_116, nT_117, nT_118, nT_119, nT_120, rT_102_1, rT_102_12, rT_102_13, rT_102_14, rT_102_18, rT_102_19, rT_102_20, rT_102_21, rT_102_22, rT_102_23, rT_102_25, rT_102_26, rT_102_27, rT_102_30, rT_102_31, rT_102_32, rT_102_33, rT_102_34, a2, h1, n10, hp, hr, nI_1]
    refine ih (i + 1) _ (by omega) hS (hf.tr (frM_wI (by decide))) ?_
    rw [← uS_uS (S := paP (σ 5) (fun k => payS σ (σ 1 1) P (nI k) a) i)]
    refine RM_now hM (fun a ha => mI_wI_ne ha) (fun k hk => ?_)
    rw [paP_s, hN i (by omega)]
    by_cases e : k = i
    · rw [e, mI_wI, if_pos ⟨rfl, rfl⟩, upS_at]
    · rw [mI_wI, if_neg (fun z => e z.2), upS_ne e]
      exact hN k hk
theorem M_pass {d L P a : Nat} {b : Bool} {σ : Sg} {M : ab_M} (hd : 3 ≤ d) (hS : Sh b M) (hM : RM M σ) (hI : IV L P σ) (ha : σ 5 10 = nI a) (ha2 : a < 32) : EvD d 146 [.ref 102] M (fun r M1 => r = none ∧ Sh b M1 ∧ frM M M1 ∧ RM M1 (uS σ (yrS (σ 5) (fun k => payS σ (σ 1 1) P (nI k) a) P))) := by
  rw [b_146 hd]
  simp +decide only [e_146_0, e_146_1, ↓reduceIte, Int32.reduceAdd, Int32.reduceSub, an_0, an_1, an_2, an_3, an_4, an_5, tc_0, tc_1, tc_2, tc_3, tc_4, tc_5, tc_6, tc_7, tc_8, tc_9, tc_10, tc_11, tc_12, tc_13, tc_14, tc_15, tc_16, tc_17, tc_18, tc_19, tc_20, tc_21, tc_22, tc_23, tc_24, tc_25, tc_26, tc_27, tc_28, tc_29, tc_30, tc_31, tc_32, lcl_none, lcl_int, lcl_ref, lcl_null, lcl_long, okR_nil, okR_int, okR_ref, okR_null, okR_long, pushR_some, pushR_none, va_rf_some, va_rf_none, true_and, and_true, true_implies, false_implies, not_true_eq_false, not_false_eq_true, implies_true, bI_eq0, bI_eq1, bI_01, Classical.not_not, or_em, false_and, and_false]
  have h0 : RM M (uS σ (paP (σ 5) (fun k => payS σ (σ 1 1) P (nI k) a) 0)) := by
    rw [paP_0]
    exact RM_now hM (fun a _ => rfl) hM.2.2.1
  refine L_passM hI ha ha2 (fun o M1 hS1 hf hM1 => ?_) P 0 M (by omega) hS (fun _ _ => rfl) h0
  have hP := (IV_n hI).2.1
  have hN : ∀ k, k < 14 → mI M1 111 k = paP (σ 5) (fun k => payS σ (σ 1 1) P (nI k) a) P k := fun k hk => by rw [hM1.2.2.1 k hk, uS_5]
  have n6' : mI M1 111 13 = σ 5 13 := by rw [hN 13 (by decide), paP_ge (by omega)]
  have hS := hS1
  simp +decide only [e_146_33, e_146_34, e_146_37, e_146_39, e_146_40, e_146_41, e_146_42, e_146_45, e_146_47, e_146_48, e_146_49, e_146_50, e_146_53, e_146_55, e_146_56, e_146_57, e_146_58, e_146_59, e_146_60, ↓reduceIte, Int32.reduceAdd, Int32.reduceSub, an_0, an_1, an_2, an_3, an_4, an_5, tc_0, tc_1, tc_2, tc_3, tc_4, tc_5, tc_6, tc_7, tc_8, tc_9, tc_10, tc_11, tc_12, tc_13, tc_14, tc_15, tc_16, tc_17, tc_18, tc_19, tc_20, tc_21, tc_22, tc_23, tc_24, tc_25, tc_26, tc_27, tc_28, tc_29, tc_30, tc_31, tc_32, lcl_none, lcl_int, lcl_ref, lcl_null, lcl_long, okR_nil, okR_int, okR_ref, okR_null, okR_long, pushR_some, pushR_none, va_rf_some, va_rf_none, true_and, and_true, true_implies, false_implies, not_true_eq_false, not_false_eq_true, implies_true, bI_eq0, bI_eq1, bI_01, Classical.not_not, or_em, false_and, and_false, hS.1, hS.2.1, hS.2.2.1, hS.2.2.2.1, kT_102, kT_103, kT_104, kT_105, kT_106, kT_107, kT_108, kT_109, kT_110, kT_111, kT_112, kT_113, kT_114, kT_115, kT_116, kT_117, kT_118, kT_119, kT_120, nT_103, nT_104, nT_105, nT_106, nT_107, nT_108, nT_109, nT_110, nT_111, nT_112, nT_113, nT_114, nT_115, nT_116, nT_117, nT_118, nT_119, nT_120, rT_102_1, rT_102_12, rT_102_13, rT_102_14, rT_102_18, rT_102_19, rT_102_20, rT_102_21, rT_102_22, rT_102_23, rT_102_25, rT_102_26, rT_102_27, rT_102_30, rT_102_31, rT_102_32, rT_102_33, rT_102_34, mI_wI, mI_wJ, mI_wR, mJ_wI, mJ_wJ, mJ_wR, mR_wI, mR_wJ, mR_wR, mK_wI, mK_wJ, mK_wR, mN_wI, mN_wJ, mN_wR, mZ_wI, mZ_wJ, mZ_wR, n6']
  refine ⟨hS1, ((hf.tr (frM_wI (by decide))).tr (frM_wI (by decide))).tr (frM_wI (by decide)), ?_⟩
  rw [← uS_uS (S := paP (σ 5) (fun k => payS σ (σ 1 1) P (nI k) a) P)]
  refine RM_now hM1 (fun a ha => by rw [mI_wI_ne ha, mI_wI_ne ha, mI_wI_ne ha]) (fun k hk => ?_)
  unfold yrS
  by_cases h13 : k = 13
  · simp [mI_wI, upS, h13]
  · by_cases h12 : k = 12
    · simp [mI_wI, upS, h12]
    · by_cases h11 : k = 11
      · simp [mI_wI, upS, h11]
      · simp [mI_wI, upS, h13, h12, h11, hN k hk]
