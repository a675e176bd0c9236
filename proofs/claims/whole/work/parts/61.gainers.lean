/-! gainers -/
def otN (σ : Sg) (a j : Nat) : Nat := a &&& (31 - hsN (σ 5) (nI j))
theorem otN_lt {σ : Sg} {L a j : Nat} (ha : a < 2 ^ L) : otN σ a j < 2 ^ L := Nat.lt_of_le_of_lt Nat.and_le_left ha
def gaB (σ : Sg) (L P n a j : Nat) : Bool := anB (bitB (otN σ a j)) L && alB (bitB (otN σ a j)) (gB (wC σ L P j n) a) L
theorem wC_30 {L P j n : Nat} {σ : Sg} (hI : IV L P σ) (hj : j < P) (hn : n ≤ 20) : ∀ A, A < 2 ^ L → wC σ L P j n A < 2 ^ 30 := fun A hA => Nat.lt_trans (wC_le hI hj hn hA) (by decide)
theorem RC_93 {b : Bool} {M M1 : ab_M} {σ : Sg} (hC : RC b M σ) (hm : ∀ a, a ≠ 93 → mI M1 a = mI M a) : RC b M1 σ := RC_scr hC (fun a ha => hm a (by omega))
theorem L_gaC {L P a n : Nat} {b : Bool} {σ : Sg} {M0 : ab_M} {Q : ab_Q} (hC0 : RC b M0 σ) (hI : IV L P σ) (ha : σ 5 10 = nI a) (haL : a < 2 ^ L) (hn : n ≤ 20) (hQ : ∀ M1, Sh b M1 → (∀ a, a ≠ 93 → mI M1 a = mI M0 a) → Q (some (.int (nI (setN (gaB σ L P n a) P)))) M1) : ∀ m j M x, j + m = P → Sh b M → (∀ a, a ≠ 93 → mI M a = mI M0 a) → Ev 4 88 14 [some (.ref 0), some (.int (nI n)), some (.int (nI (setN (gaB σ L P n a) j))), some (.int (nI j)), x] [] M Q := by
  obtain ⟨hL, hP, iL, iP⟩ := IV_n hI
  have h32 := pow_L hL
  intro m
  induction m with
  | zero =>
    intro j M x hj hS hf
    have hC := RC_93 hC0 hf
    have a2 : mI M (chL b) 6 = nI P := hC.1.1.2.1.trans iP
    have h1 : (nI P ≤ nI j) = True := by rw [nI_leE (by omega) (by omega)]; exact eq_true (by omega)
    rw [e_88_14]
    simp +decide only [e_88_15, e_88_16, e_88_19, e_88_22, e_88_111, e_88_112, ↓reduceIte, Int32.reduceAdd, Int32.reduceSub, an_0, an_1, an_2, an_3, an_4, an_5, tc_0, tc_1, tc_2, tc_3, tc_4, tc_5, tc_6, tc_7, tc_8, tc_9, tc_10, tc_11, tc_12, tc_13, tc_14, tc_15, tc_16, tc_17, tc_18, tc_19, tc_20, tc_21, tc_22, tc_23, tc_24, tc_25, tc_26, tc_27, tc_28, tc_29, tc_30, tc_31, tc_32, lcl_none, lcl_int, lcl_ref, lcl_null, lcl_long, okR_nil, okR_int, okR_ref, okR_null, okR_long, pushR_some, pushR_none, va_rf_some, va_rf_none, true_and, and_true, true_implies, false_implies, not_true_eq_false, not_false_eq_true, implies_true, bI_eq0, bI_eq1, bI_01, Classical.not_not, or_em, false_and, and_false, hS.1, hS.2.1, hS.2.2.1, hS.2.2.2.1, kT_0, kT_1, kT_2, kT_15, kT_16, kT_17, kT_18, kT_19, kT_80, kT_81, kT_82, kT_89, kT_90, kT_91, kT_92, kT_93, kT_94, kT_95, kT_96, kT_97, kT_98, kT_99, kT_100, kT_101, nT_2, nT_16, nT_17, nT_19, nT_81, nT_82, nT_90, nT_91, nT_94, nT_95, nT_97, nT_98, nT_100, nT_101, rT_0_0, rT_0_3, rT_0_4, rT_0_5, rT_0_6, rT_0_7, rT_0_8, rT_0_9, rT_0_10, rT_1_0, rT_15_0, rT_15_1, rT_18_0, rT_80_0, rT_80_1, rT_89_0, rT_89_1, rT_93_6, rT_93_7, rT_96_0, rT_96_1, rT_99_0, rT_99_1, chS1, chK, chR7, chK7, chN7, chR8, chK8, chN8, chR9, chK9, chN9, chR10, chK10, chN10, chR11, chK11, chN11, a2, h1]
    rw [show j = P by omega]
    exact hQ M hS hf
  | succ m ih =>
    intro j M x hj hS hf
    have hC := RC_93 hC0 hf
    have a2 : mI M (chL b) 6 = nI P := hC.1.1.2.1.trans iP
    have h1 : (nI P ≤ nI j) = False := by rw [nI_leE (by omega) (by omega)]; exact eq_false (by omega)
    rw [e_88_14]
    simp +decide only [e_88_15, e_88_16, e_88_19, e_88_22, e_88_25, e_88_26, e_88_29, e_88_30, e_88_33, e_88_34, e_88_37, e_88_38, ↓reduceIte, Int32.reduceAdd, Int32.reduceSub, an_0, an_1, an_2, an_3, an_4, an_5, tc_0, tc_1, tc_2, tc_3, tc_4, tc_5, tc_6, tc_7, tc_8, tc_9, tc_10, tc_11, tc_12, tc_13, tc_14, tc_15, tc_16, tc_17, tc_18, tc_19, tc_20, tc_21, tc_22, tc_23, tc_24, tc_25, tc_26, tc_27, tc_28, tc_29, tc_30, tc_31, tc_32, lcl_none, lcl_int, lcl_ref, lcl_null, lcl_long, okR_nil, okR_int, okR_ref, okR_null, okR_long, pushR_some, pushR_none, va_rf_some, va_rf_none, true_and, and_true, true_implies, false_implies, not_true_eq_false, not_false_eq_true, implies_true, bI_eq0, bI_eq1, bI_01, Classical.not_not, or_em, false_and, and_false, hS.1, hS.2.1, hS.2.2.1, hS.2.2.2.1, kT_0, kT_1, kT_2, kT_15, kT_16, kT_17, kT_18, kT_19, kT_80, kT_81, kT_82, kT_89, kT_90, kT_91, kT_92, kT_93, kT_94, kT_95, kT_96, kT_97, kT_98, kT_99, kT_100, kT_101, nT_2, nT_16, nT_17, nT_19, nT_81, nT_82, nT_90, nT_91, nT_94, nT_95, nT_97, nT_98, nT_100, nT_101, rT_0_0, rT_0_3, rT_0_4, rT_0_5, rT_0_6, rT_0_7, rT_0_8, rT_0_9, rT_0_10, rT_1_0, rT_15_0, rT_15_1, rT_18_0, rT_80_0, rT_80_1, rT_89_0, rT_89_1, rT_93_6, rT_93_7, rT_96_0, rT_96_1, rT_99_0, rT_99_1, chS1, chK, chR7, chK7, chN7, chR8, chK8, chN8, chR9, chK9, chN9, chR10, chK10, chN10, chR11, chK11, chN11, a2, h1]
    refine EvD_mono (c_asNow (d := 4) (by decide) hS hC hI) ?_
    rintro r M1 ⟨rfl, hS1, hT1, hf1⟩
    simp +decide only [e_88_41, e_88_42, e_88_45, e_88_46, e_88_49, e_88_50, ↓reduceIte, Int32.reduceAdd, Int32.reduceSub, an_0, an_1, an_2, an_3, an_4, an_5, tc_0, tc_1, tc_2, tc_3, tc_4, tc_5, tc_6, tc_7, tc_8, tc_9, tc_10, tc_11, tc_12, tc_13, tc_14, tc_15, tc_16, tc_17, tc_18, tc_19, tc_20, tc_21, tc_22, tc_23, tc_24, tc_25, tc_26, tc_27, tc_28, tc_29, tc_30, tc_31, tc_32, lcl_none, lcl_int, lcl_ref, lcl_null, lcl_long, okR_nil, okR_int, okR_ref, okR_null, okR_long, pushR_some, pushR_none, va_rf_some, va_rf_none, true_and, and_true, true_implies, false_implies, not_true_eq_false, not_false_eq_true, implies_true, bI_eq0, bI_eq1, bI_01, Classical.not_not, or_em, false_and, and_false, hS1.1, hS1.2.1, hS1.2.2.1, hS1.2.2.2.1, kT_0, kT_1, kT_2, kT_15, kT_16, kT_17, kT_18, kT_19, kT_80, kT_81, kT_82, kT_89, kT_90, kT_91, kT_92, kT_93, kT_94, kT_95, kT_96, kT_97, kT_98, kT_99, kT_100, kT_101, nT_2, nT_16, nT_17, nT_19, nT_81, nT_82, nT_90, nT_91, nT_94, nT_95, nT_97, nT_98, nT_100, nT_101, rT_0_0, rT_0_3, rT_0_4, rT_0_5, rT_0_6, rT_0_7, rT_0_8, rT_0_9, rT_0_10, rT_1_0, rT_15_0, rT_15_1, rT_18_0, rT_80_0, rT_80_1, rT_89_0, rT_89_1, rT_93_6, rT_93_7, rT_96_0, rT_96_1, rT_99_0, rT_99_1, chS1, chK, chR7, chK7, chN7, chR8, chK8, chN8, chR9, chK9, chN9, chR10, chK10, chN10, chR11, chK11, chN11]
    refine EvD_mono (C_look (d := 4) (by decide) hS1 (TR_of hI (show j < P by omega)) hT1 hn) ?_
    rintro r M2 ⟨rfl, hW2, hf2⟩
    have hS2 := hW2.1
    have hf3 : ∀ a, a ≠ 93 → mI M2 a = mI M0 a := fun a ha => by rw [hf2 a ha, hf1 a ha, hf a ha]
    have hC2 := RC_93 hC0 hf3
    have n3 : mI M2 15 2 = nI a := hC2.2.2.1.2.2.1.trans ha
    have hhb : ∀ K, EvD 4 41 [.ref 15, .int (nI j)] M2 K = K (some (.int (nI (hsN (σ 5) (nI j))))) M2 := fun K => c_heldByC (d := 4) (by decide) hS2 hC2.2.2.1.2.1
    have hot : nI a &&& (nI (hsN (σ 5) (nI j)) ^^^ (-1)) = nI (otN σ a j) := ot_nI a (by omega) _ (hsN_lt _ _)
    have hol := otN_lt (σ := σ) (j := j) haL
    have hdth : ∀ K, EvD 4 71 [.ref 93, .int (nI (otN σ a j)), .int (nI a)] M2 K = K (some (.int (nI (setN (dgB (wC σ L P j n) a (otN σ a j)) 5)))) M2 := fun K => c_deaths (d := 4) (by decide) hW2 hL haL (by omega) (wC_30 hI (by omega) hn)
    have es : setN (gaB σ L P n a) (j + 1) = setN (gaB σ L P n a) j + if gaB σ L P n a j = true then 2 ^ j else 0 := rfl
    have hih := ih (j + 1)
    have z1 := anB_x hol
    have z2 := alB_x (g := gB (wC σ L P j n) a) hL hol
    by_cases h0 : otN σ a j = 0
    · have hg : gaB σ L P n a j = false := by
        unfold gaB
        rw [h0] at z1
        have := of_eq_true (z1.symm.trans (eq_true rfl))
        rw [h0, Bool.eq_false_iff.mpr this]
        rfl
      rw [es, hg] at hih
      have h0' : (nI (otN σ a j) = 0) = True := by rw [h0]; exact eq_true rfl
      simp +decide only [e_88_53, e_88_54, e_88_57, e_88_60, e_88_61, e_88_64, e_88_65, e_88_68, e_88_69, e_88_70, e_88_71, e_88_73, e_88_75, e_88_105, e_88_108, ↓reduceIte, Int32.reduceAdd, Int32.reduceSub, an_0, an_1, an_2, an_3, an_4, an_5, tc_0, tc_1, tc_2, tc_3, tc_4, tc_5, tc_6, tc_7, tc_8, tc_9, tc_10, tc_11, tc_12, tc_13, tc_14, tc_15, tc_16, tc_17, tc_18, tc_19, tc_20, tc_21, tc_22, tc_23, tc_24, tc_25, tc_26, tc_27, tc_28, tc_29, tc_30, tc_31, tc_32, lcl_none, lcl_int, lcl_ref, lcl_null, lcl_long, okR_nil, okR_int, okR_ref, okR_null, okR_long, pushR_some, pushR_none, va_rf_some, va_rf_none, true_and, and_true, true_implies, false_implies, not_true_eq_false, not_false_eq_true, implies_true, bI_eq0, bI_eq1, bI_01, Classical.not_not, or_em, false_and, and_false, hS2.1, hS2.2.1, hS2.2.2.1, hS2.2.2.2.1, kT_0, kT_1, kT_2, kT_15, kT_16, kT_17, kT_18, kT_19, kT_80, kT_81, kT_82, kT_89, kT_90, kT_91, kT_92, kT_93, kT_94, kT_95, kT_96, kT_97, kT_98, kT_99, kT_100, kT_101, nT_2, nT_16, nT_17, nT_19, nT_81, nT_82, nT_90, nT_91, nT_94, nT_95, nT_97, nT_98, nT_100, nT_101, rT_0_0, rT_0_3, rT_0_4, rT_0_5, rT_0_6, rT_0_7, rT_0_8, rT_0_9, rT_0_10, rT_1_0, rT_15_0, rT_15_1, rT_18_0, rT_80_0, rT_80_1, rT_89_0, rT_89_1, rT_93_6, rT_93_7, rT_96_0, rT_96_1, rT_99_0, rT_99_1, chS1, chK, chR7, chK7, chN7, chR8, chK8, chN8, chR9, chK9, chN9, chR10, chK10, chN10, chR11, chK11, chN11, n3, hhb, hot, h0', nI_1]
      exact hih M2 _ (by omega) hS2 hf3
    · have han : anB (bitB (otN σ a j)) L = true := by
        cases h : anB (bitB (otN σ a j)) L with
        | true => rfl
        | false => exact absurd (z1.symm ▸ (by rw [h]; decide)) h0
      have h0' : (nI (otN σ a j) = 0) = False := by rw [nI_0E (by omega)]; exact eq_false h0
      have h5 := setN_lt (dgB (wC σ L P j n) a (otN σ a j)) 5
      by_cases hd : setN (dgB (wC σ L P j n) a (otN σ a j)) 5 = otN σ a j
      · have hg : gaB σ L P n a j = true := by
          unfold gaB
          rw [han, of_eq_true (z2.symm.trans (eq_true hd))]
          rfl
        rw [es, hg, if_pos rfl] at hih
        have hd' : (nI (setN (dgB (wC σ L P j n) a (otN σ a j)) 5) = nI (otN σ a j)) = True := eq_true (by rw [hd])
        have hor := or_sh j (by omega) _ (setN_lt (gaB σ L P n a) j)
        simp +decide only [e_88_53, e_88_54, e_88_57, e_88_60, e_88_61, e_88_64, e_88_65, e_88_68, e_88_69, e_88_70, e_88_71, e_88_73, e_88_75, e_88_78, e_88_79, e_88_82, e_88_84, e_88_85, e_88_88, e_88_91, e_88_94, e_88_96, e_88_99, e_88_100, e_88_101, e_88_102, e_88_103, e_88_104, e_88_105, e_88_108, ↓reduceIte, Int32.reduceAdd, Int32.reduceSub, an_0, an_1, an_2, an_3, an_4, an_5, tc_0, tc_1, tc_2, tc_3, tc_4, tc_5, tc_6, tc_7, tc_8, tc_9, tc_10, tc_11, tc_12, tc_13, tc_14, tc_15, tc_16, tc_17, tc_18, tc_19, tc_20, tc_21, tc_22, tc_23, tc_24, tc_25, tc_26, tc_27, tc_28, tc_29, tc_30, tc_31, tc_32, lcl_none, lcl_int, lcl_ref, lcl_null, lcl_long, okR_nil, okR_int, okR_ref, okR_null, okR_long, pushR_some, pushR_none, va_rf_some, va_rf_none, true_and, and_true, true_implies, false_implies, not_true_eq_false, not_false_eq_true, implies_true, bI_eq0, bI_eq1, bI_01, Classical.not_not, or_em, false_and, and_false, hS2.1, hS2.2.1, hS2.2.2.1, hS2.2.2.2.1, kT_0, kT_1, kT_2, kT_15, kT_16, kT_17, kT_18, kT_19, kT_80, kT_81, kT_82, kT_89, kT_90, kT_91, kT_92, kT_93, kT_94, kT_95, kT_96, kT_97, kT_98, kT_99, kT_100, kT_101, nT_2, nT_16, nT_17, nT_19, nT_81, nT_82, nT_90, nT_91, nT_94, nT_95, nT_97, nT_98, nT_100, nT_101, rT_0_0, rT_0_3, rT_0_4, rT_0_5, rT_0_6, rT_0_7, rT_0_8, rT_0_9, rT_0_10, rT_1_0, rT_15_0, rT_15_1, rT_18_0, rT_80_0, rT_80_1, rT_89_0, rT_89_1, rT_93_6, rT_93_7, rT_96_0, rT_96_1, rT_99_0, rT_99_1, chS1, chK, chR7, chK7, chN7, chR8, chK8, chN8, chR9, chK9, chN9, chR10, chK10, chN10, chR11, chK11, chN11, n3, hhb, hot, h0', hdth, hd', hor, nI_1]
        exact hih M2 _ (by omega) hS2 hf3
      · have hg : gaB σ L P n a j = false := by
          unfold gaB
          cases h : alB (bitB (otN σ a j)) (gB (wC σ L P j n) a) L with
          | true => exact absurd (z2.symm ▸ h) hd
          | false => rw [Bool.and_false]
        rw [es, hg] at hih
        have hd' : (nI (setN (dgB (wC σ L P j n) a (otN σ a j)) 5) = nI (otN σ a j)) = False := by rw [nI_eqE (by omega) (by omega)]; exact eq_false hd
        simp +decide only [e_88_53, e_88_54, e_88_57, e_88_60, e_88_61, e_88_64, e_88_65, e_88_68, e_88_69, e_88_70, e_88_71, e_88_73, e_88_75, e_88_78, e_88_79, e_88_82, e_88_84, e_88_85, e_88_88, e_88_91, e_88_94, e_88_96, e_88_99, e_88_100, e_88_101, e_88_102, e_88_103, e_88_104, e_88_105, e_88_108, ↓reduceIte, Int32.reduceAdd, Int32.reduceSub, an_0, an_1, an_2, an_3, an_4, an_5, tc_0, tc_1, tc_2, tc_3, tc_4, tc_5, tc_6, tc_7, tc_8, tc_9, tc_10, tc_11, tc_12, tc_13, tc_14, tc_15, tc_16, tc_17, tc_18, tc_19, tc_20, tc_21, tc_22, tc_23, tc_24, tc_25, tc_26, tc_27, tc_28, tc_29, tc_30, tc_31, tc_32, lcl_none, lcl_int, lcl_ref, lcl_null, lcl_long, okR_nil, okR_int, okR_ref, okR_null, okR_long, pushR_some, pushR_none, va_rf_some, va_rf_none, true_and, and_true, true_implies, false_implies, not_true_eq_false, not_false_eq_true, implies_true, bI_eq0, bI_eq1, bI_01, Classical.not_not, or_em, false_and, and_false, hS2.1, hS2.2.1, hS2.2.2.1, hS2.2.2.2.1, kT_0, kT_1, kT_2, kT_15, kT_16, kT_17, kT_18, kT_19, kT_80, kT_81, kT_82, kT_89, kT_90, kT_91, kT_92, kT_93, kT_94, kT_95, kT_96, kT_97, kT_98, kT_99, kT_100, kT_101, nT_2, nT_16, nT_17, nT_19, nT_81, nT_82, nT_90, nT_91, nT_94, nT_95, nT_97, nT_98, nT_100, nT_101, rT_0_0, rT_0_3, rT_0_4, rT_0_5, rT_0_6, rT_0_7, rT_0_8, rT_0_9, rT_0_10, rT_1_0, rT_15_0, rT_15_1, rT_18_0, rT_80_0, rT_80_1, rT_89_0, rT_89_1, rT_93_6, rT_93_7, rT_96_0, rT_96_1, rT_99_0, rT_99_1, chS1, chK, chR7, chK7, chN7, chR8, chK8, chN8, chR9, chK9, chN9, chR10, chK10, chN10, chR11, chK11, chN11, n3, hhb, hot, h0', hdth, hd', nI_1]
        exact hih M2 _ (by omega) hS2 hf3
