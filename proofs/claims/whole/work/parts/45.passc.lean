/-! a year passes: the class -/
theorem haN_c {S S1 : Nat → Int32} (h : ∀ k, 5 ≤ k → S1 k = S k) : haN S1 = haN S := by
  unfold haN
  rw [h 5 (by decide), h 6 (by decide), h 7 (by decide), h 8 (by decide), h 9 (by decide)]
theorem hsN_c {S S1 : Nat → Int32} {s : Int32} (h : ∀ k, 5 ≤ k → S1 k = S k) : hsN S1 s = hsN S s := by
  unfold hsN
  rw [h 5 (by decide), h 6 (by decide), h 7 (by decide), h 8 (by decide), h 9 (by decide)]
theorem payS_c {σ : Sg} {S1 : Nat → Int32} {T : Int32} {P x : Nat} {s : Int32} (h : ∀ k, 5 ≤ k → S1 k = σ 5 k) : payS (uS σ S1) T P s x = payS σ T P s x := by
  unfold payS
  rw [uS_5, haN_c h, hsN_c h, uS_ne (by decide)]
theorem uS_uS {σ : Sg} {S S1 : Nat → Int32} : uS (uS σ S) S1 = uS σ S1 := by
  funext j
  by_cases h : j = 5
  · rw [h, uS_5, uS_5]
  · rw [uS_ne h, uS_ne h, uS_ne h]
theorem L_passC {L P a : Nat} {b : Bool} {σ : Sg} {M0 : ab_M} {Q : ab_Q} (hI : IV L P σ) (ha : σ 5 10 = nI a) (ha2 : a < 32) (hQ : ∀ o M1, Sh b M1 → frC M0 M1 → RC b M1 (uS σ (paP (σ 5) (fun k => payS σ (σ 1 1) P (nI k) a) P)) → Ev 3 108 32 [some (.ref 0), o] [] M1 Q) : ∀ m i M, i + m = P → Sh b M → frC M0 M → RC b M (uS σ (paP (σ 5) (fun k => payS σ (σ 1 1) P (nI k) a) i)) → Ev 3 108 2 [some (.ref 0), some (.int (nI i))] [] M Q := by
  obtain ⟨hL, hP, iL, iP⟩ := IV_n hI
  intro m
  induction m with
  | zero =>
    intro i M hi hS hf hC
    have a2 : mI M (chL b) 6 = nI P := by rw [hC.1.1.2.1, uS_ne (by decide)]; exact iP
    have h1 : (nI P ≤ nI i) = True := by rw [nI_leE (by omega) (by omega)]; exact eq_true (by omega)
    rw [e_108_2]
    simp +decide only [e_108_3, e_108_4, e_108_7, e_108_10, ↓reduceIte, Int32.reduceAdd, Int32.reduceSub, an_0, an_1, an_2, an_3, an_4, an_5, tc_0, tc_1, tc_2, tc_3, tc_4, tc_5, tc_6, tc_7, tc_8, tc_9, tc_10, tc_11, tc_12, tc_13, tc_14, tc_15, tc_16, tc_17, tc_18, tc_19, tc_20, tc_21, tc_22, tc_23, tc_24, tc_25, tc_26, tc_27, tc_28, tc_29, tc_30, tc_31, tc_32, lcl_none, lcl_int, lcl_ref, lcl_null, lcl_long, okR_nil, okR_int, okR_ref, okR_null, okR_long, pushR_some, pushR_none, va_rf_some, va_rf_none, true_and, and_true, true_implies, false_implies, not_true_eq_false, not_false_eq_true, implies_true, bI_eq0, bI_eq1, bI_01, Classical.not_not, or_em, false_and, and_false, hS.1, hS.2.1, hS.2.2.1, hS.2.2.2.1, kT_0, kT_1, kT_2, kT_15, kT_16, kT_17, kT_18, kT_19, kT_80, kT_81, kT_82, kT_89, kT_90, kT_91, kT_92, kT_93, kT_94, kT_95, kT_96, kT_97, kT_98, kT_99, kT_100, kT_101, nT_2, nT_16, nT_17, nT_19, nT_81, nT_82, nT_90, nT_91, nT_94, nT_95, nT_97, nT_98, nT_100, nT_101, rT_0_0, rT_0_3, rT_0_4, rT_0_5, rT_0_6, rT_0_7, rT_0_8, rT_0_9, rT_0_10, rT_1_0, rT_15_0, rT_15_1, rT_18_0, rT_80_0, rT_80_1, rT_89_0, rT_89_1, rT_93_6, rT_93_7, rT_96_0, rT_96_1, rT_99_0, rT_99_1, chS1, chK, chR7, chK7, chN7, chR8, chK8, chN8, chR9, chK9, chN9, chR10, chK10, chN10, chR11, chK11, chN11, a2, h1]
    rw [show i = P by omega] at hC ⊢
    exact hQ _ M hS hf hC
  | succ m ih =>
    intro i M hi hS hf hC
    have a2 : mI M (chL b) 6 = nI P := by rw [hC.1.1.2.1, uS_ne (by decide)]; exact iP
    have h1 : (nI P ≤ nI i) = False := by rw [nI_leE (by omega) (by omega)]; exact eq_false (by omega)
    have hI2 := IV_uS hI (SI_paP hI.2.2.2.2.2.2.2.1 hP i (by omega) (p := fun k => payS σ (σ 1 1) P (nI k) a))
    have hp : ∀ K, EvD 3 106 [.ref 0, .int (nI i)] M K = K (some (.int (payS σ (σ 1 1) P (nI i) a))) M := fun K => by
      rw [C_payNow (Nat.le_refl 3) hS hC hI2 (by rw [uS_5, paP_ge (by omega)]; exact ha) ha2, payS_c (fun k hk => paP_ge (by omega)), uS_ne (by decide)]
    have hr : ∀ p K, EvD 3 44 [.ref 15, .int (nI i), .int p] M K = K none (wI M 16 i (capI (mI M 16 i + p))) := fun p K => c_receive (d := 3) (by decide) hS (by omega)
    rw [e_108_2]
    simp +decide only [e_108_3, e_108_4, e_108_7, e_108_10, e_108_13, e_108_14, e_108_17, e_108_18, e_108_19, e_108_20, e_108_23, e_108_26, e_108_29, ↓reduceIte, Int32.reduceAdd, Int32.reduceSub, an_0, an_1, an_2, an_3, an_4, an_5, tc_0, tc_1, tc_2, tc_3, tc_4, tc_5, tc_6, tc_7, tc_8, tc_9, tc_10, tc_11, tc_12, tc_13, tc_14, tc_15, tc_16, tc_17, tc_18, tc_19, tc_20, tc_21, tc_22, tc_23, tc_24, tc_25, tc_26, tc_27, tc_28, tc_29, tc_30, tc_31, tc_32, lcl_none, lcl_int, lcl_ref, lcl_null, lcl_long, okR_nil, okR_int, okR_ref, okR_null, okR_long, pushR_some, pushR_none, va_rf_some, va_rf_none, true_and, and_true, true_implies, false_implies, not_true_eq_false, not_false_eq_true, implies_true, bI_eq0, bI_eq1, bI_01, Classical.not_not, or_em, false_and, and_false, hS.1, hS.2.1, hS.2.2.1, hS.2.2.2.1, kT_0, kT_1, kT_2, kT_15, kT_16, kT_17, kT_18, kT_19, kT_80, kT_81, kT_82, kT_89, kT_90, kT_91, kT_92, kT_93, kT_94, kT_95, kT_96, kT_97, kT_98, kT_99, kT_100, kT_101, nT_2, nT_16, nT_17, nT_19, nT_81, nT_82, nT_90, nT_91, nT_94, nT_95, nT_97, nT_98, nT_100, nT_101, rT_0_0, rT_0_3, rT_0_4, rT_0_5, rT_0_6, rT_0_7, rT_0_8, rT_0_9, rT_0_10, rT_1_0, rT_15_0, rT_15_1, rT_18_0, rT_80_0, rT_80_1, rT_89_0, rT_89_1, rT_93_6, rT_93_7, rT_96_0, rT_96_1, rT_99_0, rT_99_1, chS1, chK, chR7, chK7, chN7, chR8, chK8, chN8, chR9, chK9, chN9, chR10, chK10, chN10, chR11, chK11, chN11, a2, h1, hp, hr, nI_1]
    refine ih (i + 1) _ (by omega) hS (hf.tr (frC_wI (by decide))) ?_
    rw [← uS_uS (S := paP (σ 5) (fun k => payS σ (σ 1 1) P (nI k) a) i)]
    have hN := hC.2.2.1
    rw [uS_5] at hN
    obtain ⟨n1, n2, n3, n4, n5, n6⟩ := hN
    have n1i : mI M 16 i = paP (σ 5) (fun k => payS σ (σ 1 1) P (nI k) a) i i := n1 i (by omega)
    refine RC_now hC (fun a ha => mI_wI_ne (by omega)) ?_
    rw [paP_s, n1i]
    refine ⟨fun k hk => ?_, fun k hk => ?_, ?_, ?_, ?_, ?_⟩
    · by_cases e : k = i
      · rw [e, mI_wI, if_pos ⟨rfl, rfl⟩, upS_at]
      · rw [mI_wI, if_neg (fun z => e z.2), upS_ne e]
        exact n1 k hk
    · rw [mI_wI_ne (by decide), upS_ne (by omega)]
      exact n2 k hk
    · rw [mI_wI_ne (by decide), n3, upS_ne (by omega)]
    · rw [mI_wI_ne (by decide), n4, upS_ne (by omega)]
    · rw [mI_wI_ne (by decide), n5, upS_ne (by omega)]
    · rw [mI_wI_ne (by decide), n6, upS_ne (by omega)]
