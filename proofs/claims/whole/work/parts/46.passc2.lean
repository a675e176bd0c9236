/-! a year passes: the class's end -/
def yrS (S : Nat → Int32) (p : Nat → Int32) (P : Nat) : Nat → Int32 := upS (upS (upS (paP S p P) 11 0) 12 0) 13 (S 13 + 1)
theorem SI_yr {L P : Nat} {S p : Nat → Int32} (h : SI L P S) (hP : P ≤ 5) : SI L P (yrS S p P) := by
  obtain ⟨h1, h2, h3, a, h4, h5⟩ := SI_paP h hP P (Nat.le_refl P) (p := p)
  unfold yrS
  exact ⟨fun k hk hp => by rw [upS_ne (by omega), upS_ne (by omega), upS_ne (by omega)]; exact h1 k hk hp, fun k hk hp => by rw [upS_ne (by omega), upS_ne (by omega), upS_ne (by omega)]; exact h2 k hk hp, fun k hk => by rw [upS_ne (by omega), upS_ne (by omega), upS_ne (by omega)]; exact h3 k hk, a, h4, by rw [upS_ne (by decide), upS_ne (by decide), upS_ne (by decide)]; exact h5⟩
theorem C_pass {d L P a : Nat} {b : Bool} {σ : Sg} {M : ab_M} (hd : 4 ≤ d) (hS : Sh b M) (hC : RC b M σ) (hI : IV L P σ) (ha : σ 5 10 = nI a) (ha2 : a < 32) : EvD d 108 [.ref 0] M (fun r M1 => r = none ∧ Sh b M1 ∧ frC M M1 ∧ RC b M1 (uS σ (yrS (σ 5) (fun k => payS σ (σ 1 1) P (nI k) a) P))) := by
  rw [b_108 hd]
  simp +decide only [e_108_0, e_108_1, ↓reduceIte, Int32.reduceAdd, Int32.reduceSub, an_0, an_1, an_2, an_3, an_4, an_5, tc_0, tc_1, tc_2, tc_3, tc_4, tc_5, tc_6, tc_7, tc_8, tc_9, tc_10, tc_11, tc_12, tc_13, tc_14, tc_15, tc_16, tc_17, tc_18, tc_19, tc_20, tc_21, tc_22, tc_23, tc_24, tc_25, tc_26, tc_27, tc_28, tc_29, tc_30, tc_31, tc_32, lcl_none, lcl_int, lcl_ref, lcl_null, lcl_long, okR_nil, okR_int, okR_ref, okR_null, okR_long, pushR_some, pushR_none, va_rf_some, va_rf_none, true_and, and_true, true_implies, false_implies, not_true_eq_false, not_false_eq_true, implies_true, bI_eq0, bI_eq1, bI_01, Classical.not_not, or_em, false_and, and_false]
  have h0 : RC b M (uS σ (paP (σ 5) (fun k => payS σ (σ 1 1) P (nI k) a) 0)) := by
    rw [paP_0]
    exact RC_now hC (fun a _ => rfl) hC.2.2.1
  refine L_passC hI ha ha2 (fun o M1 hS1 hf hC1 => ?_) P 0 M (by omega) hS (fun _ _ => rfl) h0
  have hN := hC1.2.2.1
  rw [uS_5] at hN
  obtain ⟨n1, n2, n3, n4, n5, n6⟩ := hN
  have hP := (IV_n hI).2.1
  have n6' : mI M1 15 5 = σ 5 13 := by rw [n6, paP_ge (by omega)]
  have hS := hS1
  simp +decide only [e_108_32, e_108_33, e_108_36, e_108_37, e_108_40, e_108_41, e_108_44, e_108_45, e_108_48, e_108_49, e_108_52, e_108_52r, e_108_53, e_108_56, e_108_57, e_108_58, e_108_61, ↓reduceIte, Int32.reduceAdd, Int32.reduceSub, an_0, an_1, an_2, an_3, an_4, an_5, tc_0, tc_1, tc_2, tc_3, tc_4, tc_5, tc_6, tc_7, tc_8, tc_9, tc_10, tc_11, tc_12, tc_13, tc_14, tc_15, tc_16, tc_17, tc_18, tc_19, tc_20, tc_21, tc_22, tc_23, tc_24, tc_25, tc_26, tc_27, tc_28, tc_29, tc_30, tc_31, tc_32, lcl_none, lcl_int, lcl_ref, lcl_null, lcl_long, okR_nil, okR_int, okR_ref, okR_null, okR_long, pushR_some, pushR_none, va_rf_some, va_rf_none, true_and, and_true, true_implies, false_implies, not_true_eq_false, not_false_eq_true, implies_true, bI_eq0, bI_eq1, bI_01, Classical.not_not, or_em, false_and, and_false, hS.1, hS.2.1, hS.2.2.1, hS.2.2.2.1, kT_0, kT_1, kT_2, kT_15, kT_16, kT_17, kT_18, kT_19, kT_80, kT_81, kT_82, kT_89, kT_90, kT_91, kT_92, kT_93, kT_94, kT_95, kT_96, kT_97, kT_98, kT_99, kT_100, kT_101, nT_2, nT_16, nT_17, nT_19, nT_81, nT_82, nT_90, nT_91, nT_94, nT_95, nT_97, nT_98, nT_100, nT_101, rT_0_0, rT_0_3, rT_0_4, rT_0_5, rT_0_6, rT_0_7, rT_0_8, rT_0_9, rT_0_10, rT_1_0, rT_15_0, rT_15_1, rT_18_0, rT_80_0, rT_80_1, rT_89_0, rT_89_1, rT_93_6, rT_93_7, rT_96_0, rT_96_1, rT_99_0, rT_99_1, mI_wI, mI_wJ, mI_wR, mJ_wI, mJ_wJ, mJ_wR, mR_wI, mR_wJ, mR_wR, mK_wI, mK_wJ, mK_wR, mN_wI, mN_wJ, mN_wR, mZ_wI, mZ_wJ, mZ_wR, n6']
  refine ⟨hS1, ((hf.tr (frC_wI (by decide))).tr (frC_wI (by decide))).tr (frC_wI (by decide)), ?_⟩
  rw [← uS_uS (S := paP (σ 5) (fun k => payS σ (σ 1 1) P (nI k) a) P)]
  refine RC_now hC1 (fun a ha => by rw [mI_wI_ne (by omega), mI_wI_ne (by omega), mI_wI_ne (by omega)]) ?_
  unfold yrS
  refine ⟨fun k hk => ?_, fun k hk => ?_, ?_, ?_, ?_, ?_⟩
  · rw [mI_wI_ne (by decide), mI_wI_ne (by decide), mI_wI_ne (by decide), n1 k hk, upS_ne (by omega), upS_ne (by omega), upS_ne (by omega)]
  · rw [mI_wI_ne (by decide), mI_wI_ne (by decide), mI_wI_ne (by decide), n2 k hk, upS_ne (by omega), upS_ne (by omega), upS_ne (by omega)]
  · simp [mI_wI, upS, n3]
  · simp [mI_wI, upS]
  · simp [mI_wI, upS]
  · simp [mI_wI, upS]
