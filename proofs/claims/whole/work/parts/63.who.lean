/-! who -/
theorem near_eq {u v w : Nat} (hu : u ≤ 50) (hv : v ≤ 50) (hw : w ≤ 50) : ((if 0 ≤ nI u - nI v then nI u - nI v else 0 - (nI u - nI v)) ≤ nI w) = (-nI w ≤ nI u - nI v ∧ nI u - nI v ≤ nI w) := by
  have e1 : (nI u - nI v).toInt = (u : Int) - v := pk_sub_toInt (by omega) (by omega)
  have e2 : (nI w).toInt = w := nI_toInt (by omega)
  have e3 : (-nI w).toInt = -(w : Int) := by
    rw [Int32.toInt_neg, e2]
    exact Int.bmod_eq_of_le (by omega) (by omega)
  have e4 : (0 - (nI u - nI v)).toInt = -((u : Int) - v) := by
    rw [Int32.toInt_sub, e1, show (0 : Int32).toInt = 0 by decide]
    rw [Int.bmod_eq_of_le (by omega) (by omega)]
    omega
  have z : (0 : Int32).toInt = 0 := by decide
  simp only [Int32.le_iff_toInt_le, e1, e2, e3, z]
  split
  · rw [e1]
    exact propext ⟨fun h => by omega, fun h => by omega⟩
  · rw [e4]
    exact propext ⟨fun h => by omega, fun h => by omega⟩
def nearB (σ : Sg) (l w j : Nat) : Bool := decide (-nI w ≤ σ 4 j - σ 3 l ∧ σ 4 j - σ 3 l ≤ nI w)
def whB (σ : Sg) (L P a l w j : Nat) : Bool := nearB σ l w j && (!decide (σ 5 (5 + l) = nI j) && gB (wC σ L P j 1) (seN a l) l)
theorem of_50 {x : Int32} (h : 0 ≤ x ∧ x ≤ 50) : ∃ j, j ≤ 50 ∧ x = nI j := nI_of2 (M := 50) (n := 50) (by decide) (Int32.not_lt.mpr h.1) h.2
theorem L_whC {L P a l w : Nat} {b : Bool} {σ : Sg} {M0 : ab_M} {Q : ab_Q} (hC0 : RC b M0 σ) (hI : IV L P σ) (ha : σ 5 10 = nI a) (haL : a < 2 ^ L) (hl : l < L) (hw : w ≤ 50) (hQ : ∀ M1, Sh b M1 → (∀ a, a ≠ 93 → mI M1 a = mI M0 a) → Q (some (.int (nI (setN (whB σ L P a l w) P)))) M1) : ∀ m j M x, j + m = P → Sh b M → (∀ a, a ≠ 93 → mI M a = mI M0 a) → Ev 4 90 32 [some (.ref 0), some (.int (nI l)), some (.int (nI w)), some (.int (nI (setN (whB σ L P a l w) j))), some (.int (nI j)), x] [] M Q := by
  obtain ⟨hL, hP, iL, iP⟩ := IV_n hI
  have h32 := pow_L hL
  intro m
  induction m with
  | zero =>
    intro j M x hj hS hf
    have hC := RC_93 hC0 hf
    have a2 : mI M (chL b) 6 = nI P := hC.1.1.2.1.trans iP
    have h1 : (nI P ≤ nI j) = True := by rw [nI_leE (by omega) (by omega)]; exact eq_true (by omega)
    rw [e_90_32]
    simp +decide only [e_90_34, e_90_35, e_90_38, e_90_41, e_90_166, e_90_167, ↓reduceIte, Int32.reduceAdd, Int32.reduceSub, an_0, an_1, an_2, an_3, an_4, an_5, tc_0, tc_1, tc_2, tc_3, tc_4, tc_5, tc_6, tc_7, tc_8, tc_9, tc_10, tc_11, tc_12, tc_13, tc_14, tc_15, tc_16, tc_17, tc_18, tc_19, tc_20, tc_21, tc_22, tc_23, tc_24, tc_25, tc_26, tc_27, tc_28, tc_29, tc_30, tc_31, tc_32, lcl_none, lcl_int, lcl_ref, lcl_null, lcl_long, okR_nil, okR_int, okR_ref, okR_null, okR_long, pushR_some, pushR_none, va_rf_some, va_rf_none, true_and, and_true, true_implies, false_implies, not_true_eq_false, not_false_eq_true, implies_true, bI_eq0, bI_eq1, bI_01, Classical.not_not, or_em, false_and, and_false, hS.1, hS.2.1, hS.2.2.1, hS.2.2.2.1, kT_0, kT_1, kT_2, kT_15, kT_16, kT_17, kT_18, kT_19, kT_80, kT_81, kT_82, kT_89, kT_90, kT_91, kT_92, kT_93, kT_94, kT_95, kT_96, kT_97, kT_98, kT_99, kT_100, kT_101, nT_2, nT_16, nT_17, nT_19, nT_81, nT_82, nT_90, nT_91, nT_94, nT_95, nT_97, nT_98, nT_100, nT_101, rT_0_0, rT_0_3, rT_0_4, rT_0_5, rT_0_6, rT_0_7, rT_0_8, rT_0_9, rT_0_10, rT_1_0, rT_15_0, rT_15_1, rT_18_0, rT_80_0, rT_80_1, rT_89_0, rT_89_1, rT_93_6, rT_93_7, rT_96_0, rT_96_1, rT_99_0, rT_99_1, chS1, chK, chR7, chK7, chN7, chR8, chK8, chN8, chR9, chK9, chN9, chR10, chK10, chN10, chR11, chK11, chN11, a2, h1]
    rw [show j = P by omega]
    exact hQ M hS hf
  | succ m ih =>
    intro j M x hj hS hf
    have hC := RC_93 hC0 hf
    have a2 : mI M (chL b) 6 = nI P := hC.1.1.2.1.trans iP
    have h1 : (nI P ≤ nI j) = False := by rw [nI_leE (by omega) (by omega)]; exact eq_false (by omega)
    have s4 : mI M (chL b + 5) j = σ 4 j := hC.2.1.2 j (by omega) (by rw [iP, nI_ltE (by omega) (by omega)]; omega)
    have s3 : mI M (chL b + 2) l = σ 3 l := (hC.2.1.1 l (by omega) (by rw [iL, nI_ltE (by omega) (by omega)]; omega)).2
    obtain ⟨u, hu, eu⟩ := of_50 (hI.2.2.2.2.2.2.1 j (by omega))
    obtain ⟨v, hv, ev⟩ := of_50 (hI.2.2.2.2.2.1 l hl).2
    have hnear := near_eq hu hv hw
    rw [← eu, ← ev] at hnear
    have cj : (nI j).toNatClampNeg = j := nI_clamp (by omega)
    have ij : inX (nI j) 5 = True := eq_true (inX_nI (by decide) (by omega))
    have cl : (nI l).toNatClampNeg = l := nI_clamp (by omega)
    have il : inX (nI l) 5 = True := eq_true (inX_nI (by decide) (by omega))
    have hh : mI M 17 l = σ 5 (5 + l) := hC.2.2.1.2.1 l (by omega)
    have es : setN (whB σ L P a l w) (j + 1) = setN (whB σ L P a l w) j + if whB σ L P a l w j = true then 2 ^ j else 0 := rfl
    have hih := ih (j + 1)
    have hor := or_sh j (by omega) _ (setN_lt (whB σ L P a l w) j)
    rw [e_90_32]
    cases hnb : nearB σ l w j with
    | false =>
      have hg : whB σ L P a l w j = false := by unfold whB; rw [hnb]; rfl
      rw [es, hg] at hih
      have hn2 : (nI w < (if 0 ≤ σ 4 j - σ 3 l then σ 4 j - σ 3 l else 0 - (σ 4 j - σ 3 l))) = True := eq_true (Int32.not_le.mp (by rw [hnear]; exact of_decide_eq_false hnb))
      simp +decide only [e_90_34, e_90_35, e_90_38, e_90_41, e_90_44, e_90_45, e_90_48, e_90_51, e_90_53, e_90_54, e_90_55, e_90_58, e_90_61, e_90_62, e_90_63, e_90_64, e_90_67, e_90_68, e_90_71, e_90_72, e_90_75, e_90_76, e_90_78, e_90_80, e_90_160, e_90_163, ↓reduceIte, Int32.reduceAdd, Int32.reduceSub, an_0, an_1, an_2, an_3, an_4, an_5, tc_0, tc_1, tc_2, tc_3, tc_4, tc_5, tc_6, tc_7, tc_8, tc_9, tc_10, tc_11, tc_12, tc_13, tc_14, tc_15, tc_16, tc_17, tc_18, tc_19, tc_20, tc_21, tc_22, tc_23, tc_24, tc_25, tc_26, tc_27, tc_28, tc_29, tc_30, tc_31, tc_32, lcl_none, lcl_int, lcl_ref, lcl_null, lcl_long, okR_nil, okR_int, okR_ref, okR_null, okR_long, pushR_some, pushR_none, va_rf_some, va_rf_none, true_and, and_true, true_implies, false_implies, not_true_eq_false, not_false_eq_true, implies_true, bI_eq0, bI_eq1, bI_01, Classical.not_not, or_em, false_and, and_false, hS.1, hS.2.1, hS.2.2.1, hS.2.2.2.1, kT_0, kT_1, kT_2, kT_15, kT_16, kT_17, kT_18, kT_19, kT_80, kT_81, kT_82, kT_89, kT_90, kT_91, kT_92, kT_93, kT_94, kT_95, kT_96, kT_97, kT_98, kT_99, kT_100, kT_101, nT_2, nT_16, nT_17, nT_19, nT_81, nT_82, nT_90, nT_91, nT_94, nT_95, nT_97, nT_98, nT_100, nT_101, rT_0_0, rT_0_3, rT_0_4, rT_0_5, rT_0_6, rT_0_7, rT_0_8, rT_0_9, rT_0_10, rT_1_0, rT_15_0, rT_15_1, rT_18_0, rT_80_0, rT_80_1, rT_89_0, rT_89_1, rT_93_6, rT_93_7, rT_96_0, rT_96_1, rT_99_0, rT_99_1, chS1, chK, chR7, chK7, chN7, chR8, chK8, chN8, chR9, chK9, chN9, chR10, chK10, chN10, chR11, chK11, chN11, a2, h1, s4, s3, cj, ij, cl, il, hn2, nI_1]
      exact hih M _ (by omega) hS hf
    | true =>
      have hn2 : (nI w < (if 0 ≤ σ 4 j - σ 3 l then σ 4 j - σ 3 l else 0 - (σ 4 j - σ 3 l))) = False := eq_false (Int32.not_lt.mpr (by rw [hnear]; exact of_decide_eq_true hnb))
      by_cases hho : σ 5 (5 + l) = nI j
      · have hg : whB σ L P a l w j = false := by unfold whB; rw [hnb, decide_eq_true hho]; rfl
        rw [es, hg] at hih
        have hho' : (σ 5 (5 + l) = nI j) = True := eq_true hho
        simp +decide only [e_90_34, e_90_35, e_90_38, e_90_41, e_90_44, e_90_45, e_90_48, e_90_51, e_90_53, e_90_54, e_90_55, e_90_58, e_90_61, e_90_62, e_90_63, e_90_64, e_90_67, e_90_68, e_90_71, e_90_72, e_90_75, e_90_76, e_90_78, e_90_80, e_90_83, e_90_84, e_90_87, e_90_90, e_90_91, e_90_92, e_90_94, e_90_97, e_90_160, e_90_163, ↓reduceIte, Int32.reduceAdd, Int32.reduceSub, an_0, an_1, an_2, an_3, an_4, an_5, tc_0, tc_1, tc_2, tc_3, tc_4, tc_5, tc_6, tc_7, tc_8, tc_9, tc_10, tc_11, tc_12, tc_13, tc_14, tc_15, tc_16, tc_17, tc_18, tc_19, tc_20, tc_21, tc_22, tc_23, tc_24, tc_25, tc_26, tc_27, tc_28, tc_29, tc_30, tc_31, tc_32, lcl_none, lcl_int, lcl_ref, lcl_null, lcl_long, okR_nil, okR_int, okR_ref, okR_null, okR_long, pushR_some, pushR_none, va_rf_some, va_rf_none, true_and, and_true, true_implies, false_implies, not_true_eq_false, not_false_eq_true, implies_true, bI_eq0, bI_eq1, bI_01, Classical.not_not, or_em, false_and, and_false, hS.1, hS.2.1, hS.2.2.1, hS.2.2.2.1, kT_0, kT_1, kT_2, kT_15, kT_16, kT_17, kT_18, kT_19, kT_80, kT_81, kT_82, kT_89, kT_90, kT_91, kT_92, kT_93, kT_94, kT_95, kT_96, kT_97, kT_98, kT_99, kT_100, kT_101, nT_2, nT_16, nT_17, nT_19, nT_81, nT_82, nT_90, nT_91, nT_94, nT_95, nT_97, nT_98, nT_100, nT_101, rT_0_0, rT_0_3, rT_0_4, rT_0_5, rT_0_6, rT_0_7, rT_0_8, rT_0_9, rT_0_10, rT_1_0, rT_15_0, rT_15_1, rT_18_0, rT_80_0, rT_80_1, rT_89_0, rT_89_1, rT_93_6, rT_93_7, rT_96_0, rT_96_1, rT_99_0, rT_99_1, chS1, chK, chR7, chK7, chN7, chR8, chK8, chN8, chR9, chK9, chN9, chR10, chK10, chN10, chR11, chK11, chN11, a2, h1, s4, s3, cj, ij, cl, il, hn2, hh, hho', nI_1]
        exact hih M _ (by omega) hS hf
      · have hho' : (σ 5 (5 + l) = nI j) = False := eq_false hho
        simp +decide only [e_90_34, e_90_35, e_90_38, e_90_41, e_90_44, e_90_45, e_90_48, e_90_51, e_90_53, e_90_54, e_90_55, e_90_58, e_90_61, e_90_62, e_90_63, e_90_64, e_90_67, e_90_68, e_90_71, e_90_72, e_90_75, e_90_76, e_90_78, e_90_80, e_90_83, e_90_84, e_90_87, e_90_90, e_90_91, e_90_92, e_90_94, e_90_97, e_90_100, e_90_101, e_90_104, e_90_105, e_90_108, e_90_109, e_90_112, e_90_114, ↓reduceIte, Int32.reduceAdd, Int32.reduceSub, an_0, an_1, an_2, an_3, an_4, an_5, tc_0, tc_1, tc_2, tc_3, tc_4, tc_5, tc_6, tc_7, tc_8, tc_9, tc_10, tc_11, tc_12, tc_13, tc_14, tc_15, tc_16, tc_17, tc_18, tc_19, tc_20, tc_21, tc_22, tc_23, tc_24, tc_25, tc_26, tc_27, tc_28, tc_29, tc_30, tc_31, tc_32, lcl_none, lcl_int, lcl_ref, lcl_null, lcl_long, okR_nil, okR_int, okR_ref, okR_null, okR_long, pushR_some, pushR_none, va_rf_some, va_rf_none, true_and, and_true, true_implies, false_implies, not_true_eq_false, not_false_eq_true, implies_true, bI_eq0, bI_eq1, bI_01, Classical.not_not, or_em, false_and, and_false, hS.1, hS.2.1, hS.2.2.1, hS.2.2.2.1, kT_0, kT_1, kT_2, kT_15, kT_16, kT_17, kT_18, kT_19, kT_80, kT_81, kT_82, kT_89, kT_90, kT_91, kT_92, kT_93, kT_94, kT_95, kT_96, kT_97, kT_98, kT_99, kT_100, kT_101, nT_2, nT_16, nT_17, nT_19, nT_81, nT_82, nT_90, nT_91, nT_94, nT_95, nT_97, nT_98, nT_100, nT_101, rT_0_0, rT_0_3, rT_0_4, rT_0_5, rT_0_6, rT_0_7, rT_0_8, rT_0_9, rT_0_10, rT_1_0, rT_15_0, rT_15_1, rT_18_0, rT_80_0, rT_80_1, rT_89_0, rT_89_1, rT_93_6, rT_93_7, rT_96_0, rT_96_1, rT_99_0, rT_99_1, chS1, chK, chR7, chK7, chN7, chR8, chK8, chN8, chR9, chK9, chN9, chR10, chK10, chN10, chR11, chK11, chN11, a2, h1, s4, s3, cj, ij, cl, il, hn2, hh, hho']
        refine EvD_mono (c_asNow (d := 4) (by decide) hS hC hI) ?_
        rintro r M1 ⟨rfl, hS1, hT1, hf1⟩
        simp +decide only [e_90_117, e_90_118, e_90_121, e_90_122, e_90_125, e_90_126, ↓reduceIte, Int32.reduceAdd, Int32.reduceSub, an_0, an_1, an_2, an_3, an_4, an_5, tc_0, tc_1, tc_2, tc_3, tc_4, tc_5, tc_6, tc_7, tc_8, tc_9, tc_10, tc_11, tc_12, tc_13, tc_14, tc_15, tc_16, tc_17, tc_18, tc_19, tc_20, tc_21, tc_22, tc_23, tc_24, tc_25, tc_26, tc_27, tc_28, tc_29, tc_30, tc_31, tc_32, lcl_none, lcl_int, lcl_ref, lcl_null, lcl_long, okR_nil, okR_int, okR_ref, okR_null, okR_long, pushR_some, pushR_none, va_rf_some, va_rf_none, true_and, and_true, true_implies, false_implies, not_true_eq_false, not_false_eq_true, implies_true, bI_eq0, bI_eq1, bI_01, Classical.not_not, or_em, false_and, and_false, hS1.1, hS1.2.1, hS1.2.2.1, hS1.2.2.2.1, kT_0, kT_1, kT_2, kT_15, kT_16, kT_17, kT_18, kT_19, kT_80, kT_81, kT_82, kT_89, kT_90, kT_91, kT_92, kT_93, kT_94, kT_95, kT_96, kT_97, kT_98, kT_99, kT_100, kT_101, nT_2, nT_16, nT_17, nT_19, nT_81, nT_82, nT_90, nT_91, nT_94, nT_95, nT_97, nT_98, nT_100, nT_101, rT_0_0, rT_0_3, rT_0_4, rT_0_5, rT_0_6, rT_0_7, rT_0_8, rT_0_9, rT_0_10, rT_1_0, rT_15_0, rT_15_1, rT_18_0, rT_80_0, rT_80_1, rT_89_0, rT_89_1, rT_93_6, rT_93_7, rT_96_0, rT_96_1, rT_99_0, rT_99_1, chS1, chK, chR7, chK7, chN7, chR8, chK8, chN8, chR9, chK9, chN9, chR10, chK10, chN10, chR11, chK11, chN11]
        have ht := C_look (d := 4) (n := 1) (by decide) hS1 (TR_of hI (show j < P by omega)) hT1 (by decide)
        refine EvD_mono ht ?_
        rintro r M2 ⟨rfl, hW2, hf2⟩
        have hS2 := hW2.1
        have hf3 : ∀ a, a ≠ 93 → mI M2 a = mI M0 a := fun a ha => by rw [hf2 a ha, hf1 a ha, hf a ha]
        have hC2 := RC_93 hC0 hf3
        have n3 : mI M2 15 2 = nI a := hC2.2.2.1.2.2.1.trans ha
        have e1 := se_nI a (by omega) l (by omega)
        have hse := seN_lt L hL a haL l hl
        have hcl := Nat.lt_of_le_of_lt (clN_le (seN a l) l) hse
        have w30 := wC_30 (n := 1) hI (show j < P by omega) (by decide)
        have hg := lg_gt (w30 _ hcl) (w30 _ hse)
        have hgc : ∀ K, EvD 4 70 [.ref 93, .int (nI l), .int (nI (seN a l))] M2 K = K (some (.long (lN (wC σ L P j 1 (clN (seN a l) l)) - lN (wC σ L P j 1 (seN a l))))) M2 := fun K => c_gainByC (d := 4) (f := wC σ L P j 1) (by decide) hW2 hL hse (show l < 5 by omega)
        cases hgb : gB (wC σ L P j 1) (seN a l) l with
        | false =>
          have hgw : whB σ L P a l w j = false := by unfold whB; rw [hgb, Bool.and_false, Bool.and_false]
          rw [es, hgw] at hih
          have hle : (lg_cmp (lN (wC σ L P j 1 (clN (seN a l) l)) - lN (wC σ L P j 1 (seN a l))) 0 ≤ 0) = True := by rw [hg]; exact eq_true (Nat.not_lt.mp (of_decide_eq_false hgb))
          simp +decide only [e_90_129, e_90_130, e_90_133, e_90_134, e_90_135, e_90_138, e_90_141, e_90_142, e_90_143, e_90_144, e_90_145, e_90_148, e_90_149, e_90_150, e_90_153, e_90_154, e_90_155, e_90_157, e_90_158, e_90_159, e_90_160, e_90_163, ↓reduceIte, Int32.reduceAdd, Int32.reduceSub, an_0, an_1, an_2, an_3, an_4, an_5, tc_0, tc_1, tc_2, tc_3, tc_4, tc_5, tc_6, tc_7, tc_8, tc_9, tc_10, tc_11, tc_12, tc_13, tc_14, tc_15, tc_16, tc_17, tc_18, tc_19, tc_20, tc_21, tc_22, tc_23, tc_24, tc_25, tc_26, tc_27, tc_28, tc_29, tc_30, tc_31, tc_32, lcl_none, lcl_int, lcl_ref, lcl_null, lcl_long, okR_nil, okR_int, okR_ref, okR_null, okR_long, pushR_some, pushR_none, va_rf_some, va_rf_none, true_and, and_true, true_implies, false_implies, not_true_eq_false, not_false_eq_true, implies_true, bI_eq0, bI_eq1, bI_01, Classical.not_not, or_em, false_and, and_false, hS2.1, hS2.2.1, hS2.2.2.1, hS2.2.2.2.1, kT_0, kT_1, kT_2, kT_15, kT_16, kT_17, kT_18, kT_19, kT_80, kT_81, kT_82, kT_89, kT_90, kT_91, kT_92, kT_93, kT_94, kT_95, kT_96, kT_97, kT_98, kT_99, kT_100, kT_101, nT_2, nT_16, nT_17, nT_19, nT_81, nT_82, nT_90, nT_91, nT_94, nT_95, nT_97, nT_98, nT_100, nT_101, rT_0_0, rT_0_3, rT_0_4, rT_0_5, rT_0_6, rT_0_7, rT_0_8, rT_0_9, rT_0_10, rT_1_0, rT_15_0, rT_15_1, rT_18_0, rT_80_0, rT_80_1, rT_89_0, rT_89_1, rT_93_6, rT_93_7, rT_96_0, rT_96_1, rT_99_0, rT_99_1, chS1, chK, chR7, chK7, chN7, chR8, chK8, chN8, chR9, chK9, chN9, chR10, chK10, chN10, chR11, chK11, chN11, n3, e1, hgc, hle, nI_1]
          exact hih M2 _ (by omega) hS2 hf3
        | true =>
          have hgw : whB σ L P a l w j = true := by unfold whB; rw [hgb, hnb, decide_eq_false hho]; rfl
          rw [es, hgw, if_pos rfl] at hih
          have hle : (lg_cmp (lN (wC σ L P j 1 (clN (seN a l) l)) - lN (wC σ L P j 1 (seN a l))) 0 ≤ 0) = False := by rw [hg]; exact eq_false (Nat.not_le.mpr (of_decide_eq_true hgb))
          simp +decide only [e_90_129, e_90_130, e_90_133, e_90_134, e_90_135, e_90_138, e_90_141, e_90_142, e_90_143, e_90_144, e_90_145, e_90_148, e_90_149, e_90_150, e_90_153, e_90_154, e_90_155, e_90_157, e_90_158, e_90_159, e_90_160, e_90_163, ↓reduceIte, Int32.reduceAdd, Int32.reduceSub, an_0, an_1, an_2, an_3, an_4, an_5, tc_0, tc_1, tc_2, tc_3, tc_4, tc_5, tc_6, tc_7, tc_8, tc_9, tc_10, tc_11, tc_12, tc_13, tc_14, tc_15, tc_16, tc_17, tc_18, tc_19, tc_20, tc_21, tc_22, tc_23, tc_24, tc_25, tc_26, tc_27, tc_28, tc_29, tc_30, tc_31, tc_32, lcl_none, lcl_int, lcl_ref, lcl_null, lcl_long, okR_nil, okR_int, okR_ref, okR_null, okR_long, pushR_some, pushR_none, va_rf_some, va_rf_none, true_and, and_true, true_implies, false_implies, not_true_eq_false, not_false_eq_true, implies_true, bI_eq0, bI_eq1, bI_01, Classical.not_not, or_em, false_and, and_false, hS2.1, hS2.2.1, hS2.2.2.1, hS2.2.2.2.1, kT_0, kT_1, kT_2, kT_15, kT_16, kT_17, kT_18, kT_19, kT_80, kT_81, kT_82, kT_89, kT_90, kT_91, kT_92, kT_93, kT_94, kT_95, kT_96, kT_97, kT_98, kT_99, kT_100, kT_101, nT_2, nT_16, nT_17, nT_19, nT_81, nT_82, nT_90, nT_91, nT_94, nT_95, nT_97, nT_98, nT_100, nT_101, rT_0_0, rT_0_3, rT_0_4, rT_0_5, rT_0_6, rT_0_7, rT_0_8, rT_0_9, rT_0_10, rT_1_0, rT_15_0, rT_15_1, rT_18_0, rT_80_0, rT_80_1, rT_89_0, rT_89_1, rT_93_6, rT_93_7, rT_96_0, rT_96_1, rT_99_0, rT_99_1, chS1, chK, chR7, chK7, chN7, chR8, chK8, chN8, chR9, chK9, chN9, chR10, chK10, chN10, chR11, chK11, chN11, n3, e1, hgc, hle, hor, nI_1]
          exact hih M2 _ (by omega) hS2 hf3
theorem L_whM {L P a l w : Nat} {b : Bool} {σ : Sg} {M0 : ab_M} {Q : ab_Q} (hM0 : RM M0 σ) (hI : IV L P σ) (ha : σ 5 10 = nI a) (haL : a < 2 ^ L) (hl : l < L) (hQ : ∀ M1, Sh b M1 → mI M1 = mI M0 → Q (some (.int (nI (setN (whB σ L P a l w) P)))) M1) : ∀ m j M x, j + m = P → Sh b M → mI M = mI M0 → Ev 6 164 29 [some (.ref 102), some (.int (nI l)), some (.int (nI w)), some (.int (nI (setN (whB σ L P a l w) j))), some (.int (nI j)), x] [] M Q := by
  obtain ⟨hL, hP, iL, iP⟩ := IV_n hI
  have h32 := pow_L hL
  intro m
  induction m with
  | zero =>
    intro j M x hj hS hI2
    have hM : RM M σ := RM_scr hM0 (fun a _ _ => by rw [hI2])
    have a2 : mI M 102 17 = nI P := hM.1.1.2.1.trans iP
    have h1 : (nI P ≤ nI j) = True := by rw [nI_leE (by omega) (by omega)]; exact eq_true (by omega)
    rw [e_164_29]
    simp +decide only [e_164_31, e_164_32, e_164_35, e_164_106, e_164_107, ↓reduceIte, Int32.reduceAdd, Int32.reduceSub, an_0, an_1, an_2, an_3, an_4, an_5, tc_0, tc_1, tc_2, tc_3, tc_4, tc_5, tc_6, tc_7, tc_8, tc_9, tc_10, tc_11, tc_12, tc_13, tc_14, tc_15, tc_16, tc_17, tc_18, tc_19, tc_20, tc_21, tc_22, tc_23, tc_24, tc_25, tc_26, tc_27, tc_28, tc_29, tc_30, tc_31, tc_32, lcl_none, lcl_int, lcl_ref, lcl_null, lcl_long, okR_nil, okR_int, okR_ref, okR_null, okR_long, pushR_some, pushR_none, va_rf_some, va_rf_none, true_and, and_true, true_implies, false_implies, not_true_eq_false, not_false_eq_true, implies_true, bI_eq0, bI_eq1, bI_01, Classical.not_not, or_em, false_and, and_false, hS.1, hS.2.1, hS.2.2.1, hS.2.2.2.1, kT_102, kT_103, kT_104, kT_105, kT_106, kT_107, kT_108, kT_109, kT_110, kT_111, kT_112, kT_113, kT_114, kT_115, kT_116, kT_117, kT_118, kT_119, kT_120, nT_103, nT_104, nT_105, nT_106, nT_107, nT_108, nT_109, nT_110, nT_111, nT_112, nT_113, nT_114, nT_115, nT_116, nT_117, nT_118, nT_119, nT_120, rT_102_1, rT_102_12, rT_102_13, rT_102_14, rT_102_18, rT_102_19, rT_102_20, rT_102_21, rT_102_22, rT_102_23, rT_102_25, rT_102_26, rT_102_27, rT_102_30, rT_102_31, rT_102_32, rT_102_33, rT_102_34, a2, h1]
    rw [show j = P by omega]
    exact hQ M hS hI2
  | succ m ih =>
    intro j M x hj hS hI2
    have hM : RM M σ := RM_scr hM0 (fun a _ _ => by rw [hI2])
    have a2 : mI M 102 17 = nI P := hM.1.1.2.1.trans iP
    have h1 : (nI P ≤ nI j) = False := by rw [nI_leE (by omega) (by omega)]; exact eq_false (by omega)
    have s4 : mI M 110 j = σ 4 j := hM.2.1.2 j (by omega) (by rw [iP, nI_ltE (by omega) (by omega)]; omega)
    have s3 : mI M 109 l = σ 3 l := (hM.2.1.1 l (by omega) (by rw [iL, nI_ltE (by omega) (by omega)]; omega)).2
    have cj : (nI j).toNatClampNeg = j := nI_clamp (by omega)
    have ij : inX (nI j) 5 = True := eq_true (inX_nI (by decide) (by omega))
    have cl : (nI l).toNatClampNeg = l := nI_clamp (by omega)
    have il : inX (nI l) 5 = True := eq_true (inX_nI (by decide) (by omega))
    have e5 : (5 : Int32) + nI l = nI (5 + l) := nI_add 5 l
    have hcl : (nI (5 + l)).toNatClampNeg = 5 + l := nI_clamp (by omega)
    have hin : inX (nI (5 + l)) 14 = True := eq_true (inX_nI (by decide) (by omega))
    have hh : mI M 111 (5 + l) = σ 5 (5 + l) := hM.2.2.1 (5 + l) (by omega)
    have es : setN (whB σ L P a l w) (j + 1) = setN (whB σ L P a l w) j + if whB σ L P a l w j = true then 2 ^ j else 0 := rfl
    have hih := ih (j + 1)
    have hor := or_sh j (by omega) _ (setN_lt (whB σ L P a l w) j)
    rw [e_164_29]
    cases hnb : nearB σ l w j with
    | false =>
      have hg : whB σ L P a l w j = false := by unfold whB; rw [hnb]; rfl
      rw [es, hg] at hih
      have hn2 : (-nI w ≤ σ 4 j - σ 3 l ∧ σ 4 j - σ 3 l ≤ nI w) = False := eq_false (of_decide_eq_false hnb)
      simp +decide only [e_164_31, e_164_32, e_164_35, e_164_38, e_164_39, e_164_42, e_164_44, e_164_45, e_164_46, e_164_49, e_164_50, e_164_51, e_164_52, e_164_53, e_164_54, e_164_55, e_164_58, e_164_60, e_164_61, e_164_63, e_164_97, e_164_98, e_164_99, e_164_100, e_164_103, ↓reduceIte, Int32.reduceAdd, Int32.reduceSub, an_0, an_1, an_2, an_3, an_4, an_5, tc_0, tc_1, tc_2, tc_3, tc_4, tc_5, tc_6, tc_7, tc_8, tc_9, tc_10, tc_11, tc_12, tc_13, tc_14, tc_15, tc_16, tc_17, tc_18, tc_19, tc_20, tc_21, tc_22, tc_23, tc_24, tc_25, tc_26, tc_27, tc_28, tc_29, tc_30, tc_31, tc_32, lcl_none, lcl_int, lcl_ref, lcl_null, lcl_long, okR_nil, okR_int, okR_ref, okR_null, okR_long, pushR_some, pushR_none, va_rf_some, va_rf_none, true_and, and_true, true_implies, false_implies, not_true_eq_false, not_false_eq_true, implies_true, bI_eq0, bI_eq1, bI_01, Classical.not_not, or_em, false_and, and_false, hS.1, hS.2.1, hS.2.2.1, hS.2.2.2.1, kT_102, kT_103, kT_104, kT_105, kT_106, kT_107, kT_108, kT_109, kT_110, kT_111, kT_112, kT_113, kT_114, kT_115, kT_116, kT_117, kT_118, kT_119, kT_120, nT_103, nT_104, nT_105, nT_106, nT_107, nT_108, nT_109, nT_110, nT_111, nT_112, nT_113, nT_114, nT_115, nT_116, nT_117, nT_118, nT_119, nT_120, rT_102_1, rT_102_12, rT_102_13, rT_102_14, rT_102_18, rT_102_19, rT_102_20, rT_102_21, rT_102_22, rT_102_23, rT_102_25, rT_102_26, rT_102_27, rT_102_30, rT_102_31, rT_102_32, rT_102_33, rT_102_34, a2, h1, s4, s3, cj, ij, cl, il, c_in (d := 6) (by decide), hn2, Int32.or_zero, nI_1]
      exact hih M _ (by omega) hS hI2
    | true =>
      have hn2 : (-nI w ≤ σ 4 j - σ 3 l ∧ σ 4 j - σ 3 l ≤ nI w) = True := eq_true (of_decide_eq_true hnb)
      by_cases hho : σ 5 (5 + l) = nI j
      · have hg : whB σ L P a l w j = false := by unfold whB; rw [hnb, decide_eq_true hho]; rfl
        rw [es, hg] at hih
        have hho' : (σ 5 (5 + l) = nI j) = True := eq_true hho
        simp +decide only [e_164_31, e_164_32, e_164_35, e_164_38, e_164_39, e_164_42, e_164_44, e_164_45, e_164_46, e_164_49, e_164_50, e_164_51, e_164_52, e_164_53, e_164_54, e_164_55, e_164_58, e_164_60, e_164_61, e_164_63, e_164_66, e_164_67, e_164_70, e_164_71, e_164_72, e_164_73, e_164_74, e_164_76, e_164_97, e_164_98, e_164_99, e_164_100, e_164_103, ↓reduceIte, Int32.reduceAdd, Int32.reduceSub, an_0, an_1, an_2, an_3, an_4, an_5, tc_0, tc_1, tc_2, tc_3, tc_4, tc_5, tc_6, tc_7, tc_8, tc_9, tc_10, tc_11, tc_12, tc_13, tc_14, tc_15, tc_16, tc_17, tc_18, tc_19, tc_20, tc_21, tc_22, tc_23, tc_24, tc_25, tc_26, tc_27, tc_28, tc_29, tc_30, tc_31, tc_32, lcl_none, lcl_int, lcl_ref, lcl_null, lcl_long, okR_nil, okR_int, okR_ref, okR_null, okR_long, pushR_some, pushR_none, va_rf_some, va_rf_none, true_and, and_true, true_implies, false_implies, not_true_eq_false, not_false_eq_true, implies_true, bI_eq0, bI_eq1, bI_01, Classical.not_not, or_em, false_and, and_false, hS.1, hS.2.1, hS.2.2.1, hS.2.2.2.1, kT_102, kT_103, kT_104, kT_105, kT_106, kT_107, kT_108, kT_109, kT_110, kT_111, kT_112, kT_113, kT_114, kT_115, kT_116, kT_117, kT_118, kT_119, kT_120, nT_103, nT_104, nT_105, nT_106, nT_107, nT_108, nT_109, nT_110, nT_111, nT_112, nT_113, nT_114, nT_115, nT_116, nT_117, nT_118, nT_119, nT_120, rT_102_1, rT_102_12, rT_102_13, rT_102_14, rT_102_18, rT_102_19, rT_102_20, rT_102_21, rT_102_22, rT_102_23, rT_102_25, rT_102_26, rT_102_27, rT_102_30, rT_102_31, rT_102_32, rT_102_33, rT_102_34, a2, h1, s4, s3, cj, ij, cl, il, c_in (d := 6) (by decide), hn2, e5, hcl, hin, hh, hho', Int32.or_zero, nI_1]
        exact hih M _ (by omega) hS hI2
      · have hho' : (σ 5 (5 + l) = nI j) = False := eq_false hho
        simp +decide only [e_164_31, e_164_32, e_164_35, e_164_38, e_164_39, e_164_42, e_164_44, e_164_45, e_164_46, e_164_49, e_164_50, e_164_51, e_164_52, e_164_53, e_164_54, e_164_55, e_164_58, e_164_60, e_164_61, e_164_63, e_164_66, e_164_67, e_164_70, e_164_71, e_164_72, e_164_73, e_164_74, e_164_76, e_164_79, e_164_80, e_164_82, e_164_83, e_164_84, ↓reduceIte, Int32.reduceAdd, Int32.reduceSub, an_0, an_1, an_2, an_3, an_4, an_5, tc_0, tc_1, tc_2, tc_3, tc_4, tc_5, tc_6, tc_7, tc_8, tc_9, tc_10, tc_11, tc_12, tc_13, tc_14, tc_15, tc_16, tc_17, tc_18, tc_19, tc_20, tc_21, tc_22, tc_23, tc_24, tc_25, tc_26, tc_27, tc_28, tc_29, tc_30, tc_31, tc_32, lcl_none, lcl_int, lcl_ref, lcl_null, lcl_long, okR_nil, okR_int, okR_ref, okR_null, okR_long, pushR_some, pushR_none, va_rf_some, va_rf_none, true_and, and_true, true_implies, false_implies, not_true_eq_false, not_false_eq_true, implies_true, bI_eq0, bI_eq1, bI_01, Classical.not_not, or_em, false_and, and_false, hS.1, hS.2.1, hS.2.2.1, hS.2.2.2.1, kT_102, kT_103, kT_104, kT_105, kT_106, kT_107, kT_108, kT_109, kT_110, kT_111, kT_112, kT_113, kT_114, kT_115, kT_116, kT_117, kT_118, kT_119, kT_120, nT_103, nT_104, nT_105, nT_106, nT_107, nT_108, nT_109, nT_110, nT_111, nT_112, nT_113, nT_114, nT_115, nT_116, nT_117, nT_118, nT_119, nT_120, rT_102_1, rT_102_12, rT_102_13, rT_102_14, rT_102_18, rT_102_19, rT_102_20, rT_102_21, rT_102_22, rT_102_23, rT_102_25, rT_102_26, rT_102_27, rT_102_30, rT_102_31, rT_102_32, rT_102_33, rT_102_34, a2, h1, s4, s3, cj, ij, cl, il, c_in (d := 6) (by decide), hn2, e5, hcl, hin, hh, hho']
        refine EvD_mono (c_gainByM (d := 6) (n := 1) (by decide) hS hM hI ha haL (show j < P by omega) hl (by decide)) ?_
        rintro r M2 ⟨rfl, hS2, hI3⟩
        have hse := seN_lt L hL a haL l hl
        have hclt := Nat.lt_of_le_of_lt (clN_le (seN a l) l) hse
        have w30 := wC_30 (n := 1) hI (show j < P by omega) (by decide)
        have hg := mg_gt (w30 _ hclt) (w30 _ hse)
        cases hgb : gB (wC σ L P j 1) (seN a l) l with
        | false =>
          have hgw : whB σ L P a l w j = false := by unfold whB; rw [hgb, Bool.and_false, Bool.and_false]
          rw [es, hgw] at hih
          have hle : (nI (wC σ L P j 1 (clN (seN a l) l)) - nI (wC σ L P j 1 (seN a l)) ≤ 0) = True := by rw [hg]; exact eq_true (Nat.not_lt.mp (of_decide_eq_false hgb))
          simp +decide only [e_164_87, e_164_90, e_164_91, e_164_93, e_164_94, e_164_97, e_164_98, e_164_99, e_164_100, e_164_103, ↓reduceIte, Int32.reduceAdd, Int32.reduceSub, an_0, an_1, an_2, an_3, an_4, an_5, tc_0, tc_1, tc_2, tc_3, tc_4, tc_5, tc_6, tc_7, tc_8, tc_9, tc_10, tc_11, tc_12, tc_13, tc_14, tc_15, tc_16, tc_17, tc_18, tc_19, tc_20, tc_21, tc_22, tc_23, tc_24, tc_25, tc_26, tc_27, tc_28, tc_29, tc_30, tc_31, tc_32, lcl_none, lcl_int, lcl_ref, lcl_null, lcl_long, okR_nil, okR_int, okR_ref, okR_null, okR_long, pushR_some, pushR_none, va_rf_some, va_rf_none, true_and, and_true, true_implies, false_implies, not_true_eq_false, not_false_eq_true, implies_true, bI_eq0, bI_eq1, bI_01, Classical.not_not, or_em, false_and, and_false, hle, Int32.or_zero, nI_1]
          exact hih M2 _ (by omega) hS2 (hI3.trans hI2)
        | true =>
          have hgw : whB σ L P a l w j = true := by unfold whB; rw [hgb, hnb, decide_eq_false hho]; rfl
          rw [es, hgw, if_pos rfl] at hih
          have hle : (nI (wC σ L P j 1 (clN (seN a l) l)) - nI (wC σ L P j 1 (seN a l)) ≤ 0) = False := by rw [hg]; exact eq_false (Nat.not_le.mpr (of_decide_eq_true hgb))
          simp +decide only [e_164_87, e_164_90, e_164_91, e_164_93, e_164_94, e_164_97, e_164_98, e_164_99, e_164_100, e_164_103, ↓reduceIte, Int32.reduceAdd, Int32.reduceSub, an_0, an_1, an_2, an_3, an_4, an_5, tc_0, tc_1, tc_2, tc_3, tc_4, tc_5, tc_6, tc_7, tc_8, tc_9, tc_10, tc_11, tc_12, tc_13, tc_14, tc_15, tc_16, tc_17, tc_18, tc_19, tc_20, tc_21, tc_22, tc_23, tc_24, tc_25, tc_26, tc_27, tc_28, tc_29, tc_30, tc_31, tc_32, lcl_none, lcl_int, lcl_ref, lcl_null, lcl_long, okR_nil, okR_int, okR_ref, okR_null, okR_long, pushR_some, pushR_none, va_rf_some, va_rf_none, true_and, and_true, true_implies, false_implies, not_true_eq_false, not_false_eq_true, implies_true, bI_eq0, bI_eq1, bI_01, Classical.not_not, or_em, false_and, and_false, hle, hor, nI_1]
          exact hih M2 _ (by omega) hS2 (hI3.trans hI2)
theorem op_who (l w : Int32) (M : ab_M) (hM : Rel M) : lwStep Rel 90 164 [l, w] M := by
  obtain ⟨b, σ, L, P, hS, hC, hMo, hI⟩ := hM
  obtain ⟨hL, hP, iL, iP⟩ := IV_n hI
  obtain ⟨a, ha32, haL, ha⟩ := IV_al hI
  have a1 := hC.1.1.1
  by_cases hl : 0 ≤ l ∧ l < nI L
  · have hy : (0 ≤ l ∧ l < σ 0 0) = True := by rw [iL]; exact eq_true hl
    have hym : ∀ M1, RM M1 σ → (0 ≤ l ∧ l ≤ mI M1 102 16 - 1) = True := fun M1 h => by rw [h.1.1.1, iL, ix_pred hL]; exact eq_true hl
    obtain ⟨i, hi, rfl⟩ := of_ix (by omega) hl
    by_cases hw : 0 ≤ w ∧ w ≤ 50
    · have hwx : (0 ≤ w ∧ w ≤ 50) = True := eq_true hw
      have hw0 : (w < 0) = False := eq_false (Int32.not_lt.mpr hw.1)
      have hw0' : (0 ≤ w) = True := eq_true hw.1
      have hw50 : (w ≤ 50) = True := eq_true hw.2
      obtain ⟨k, hk, rfl⟩ := of_50 hw
      refine RO hS hC hMo hI (nI (setN (whB σ L P a i k) P)) ?_ (fun M1 hS1 hM1 => ?_)
      · show EvD 20 90 [.ref 0, .int (nI i), .int (nI k)] M _
        rw [b_90 (by decide)]
        simp +decide only [e_90_0, e_90_1, e_90_4, e_90_5, e_90_8, e_90_11, e_90_13, e_90_14, e_90_15, e_90_18, e_90_19, e_90_21, e_90_24, e_90_26, e_90_27, e_90_28, e_90_29, e_90_30, ↓reduceIte, Int32.reduceAdd, Int32.reduceSub, an_0, an_1, an_2, an_3, an_4, an_5, tc_0, tc_1, tc_2, tc_3, tc_4, tc_5, tc_6, tc_7, tc_8, tc_9, tc_10, tc_11, tc_12, tc_13, tc_14, tc_15, tc_16, tc_17, tc_18, tc_19, tc_20, tc_21, tc_22, tc_23, tc_24, tc_25, tc_26, tc_27, tc_28, tc_29, tc_30, tc_31, tc_32, lcl_none, lcl_int, lcl_ref, lcl_null, lcl_long, okR_nil, okR_int, okR_ref, okR_null, okR_long, pushR_some, pushR_none, va_rf_some, va_rf_none, true_and, and_true, true_implies, false_implies, not_true_eq_false, not_false_eq_true, implies_true, bI_eq0, bI_eq1, bI_01, Classical.not_not, or_em, false_and, and_false, hS.1, hS.2.1, hS.2.2.1, hS.2.2.2.1, kT_0, kT_1, kT_2, kT_15, kT_16, kT_17, kT_18, kT_19, kT_80, kT_81, kT_82, kT_89, kT_90, kT_91, kT_92, kT_93, kT_94, kT_95, kT_96, kT_97, kT_98, kT_99, kT_100, kT_101, nT_2, nT_16, nT_17, nT_19, nT_81, nT_82, nT_90, nT_91, nT_94, nT_95, nT_97, nT_98, nT_100, nT_101, rT_0_0, rT_0_3, rT_0_4, rT_0_5, rT_0_6, rT_0_7, rT_0_8, rT_0_9, rT_0_10, rT_1_0, rT_15_0, rT_15_1, rT_18_0, rT_80_0, rT_80_1, rT_89_0, rT_89_1, rT_93_6, rT_93_7, rT_96_0, rT_96_1, rT_99_0, rT_99_1, chS1, chK, chR7, chK7, chN7, chR8, chK8, chN8, chR9, chK9, chN9, chR10, chK10, chN10, chR11, chK11, chN11, c_hasLife (d := 4) (by decide), a1, hy, hw0, hw0', hw50]
        exact L_whC hC hI ha haL hi hk (fun M1 hS1 hf1 => ⟨rfl, hS1, fun a ha => hf1 a (by omega)⟩) P 0 M none (by omega) hS (fun _ _ => rfl)
      · show EvD 20 164 [.ref 102, .int (nI i), .int (nI k)] M1 _
        rw [b_164 (by decide)]
        simp +decide only [e_164_0, e_164_1, e_164_2, e_164_5, e_164_8, e_164_10, e_164_11, e_164_12, e_164_13, e_164_15, e_164_18, e_164_21, e_164_23, e_164_24, e_164_25, e_164_26, e_164_27, ↓reduceIte, Int32.reduceAdd, Int32.reduceSub, an_0, an_1, an_2, an_3, an_4, an_5, tc_0, tc_1, tc_2, tc_3, tc_4, tc_5, tc_6, tc_7, tc_8, tc_9, tc_10, tc_11, tc_12, tc_13, tc_14, tc_15, tc_16, tc_17, tc_18, tc_19, tc_20, tc_21, tc_22, tc_23, tc_24, tc_25, tc_26, tc_27, tc_28, tc_29, tc_30, tc_31, tc_32, lcl_none, lcl_int, lcl_ref, lcl_null, lcl_long, okR_nil, okR_int, okR_ref, okR_null, okR_long, pushR_some, pushR_none, va_rf_some, va_rf_none, true_and, and_true, true_implies, false_implies, not_true_eq_false, not_false_eq_true, implies_true, bI_eq0, bI_eq1, bI_01, Classical.not_not, or_em, false_and, and_false, hS1.1, hS1.2.1, hS1.2.2.1, kT_102, kT_103, kT_104, kT_105, kT_106, kT_107, kT_108, kT_109, kT_110, kT_111, kT_112, kT_113, kT_114, kT_115, kT_116, kT_117, kT_118, kT_119, kT_120, nT_103, nT_104, nT_105, nT_106, nT_107, nT_108, nT_109, nT_110, nT_111, nT_112, nT_113, nT_114, nT_115, nT_116, nT_117, nT_118, nT_119, nT_120, rT_102_1, rT_102_12, rT_102_13, rT_102_14, rT_102_18, rT_102_19, rT_102_20, rT_102_21, rT_102_22, rT_102_23, rT_102_25, rT_102_26, rT_102_27, rT_102_30, rT_102_31, rT_102_32, rT_102_33, rT_102_34, c_isLifeM (d := 6) (by decide) hS1, c_in (d := 6) (by decide), hym M1 hM1, hwx]
        exact L_whM hM1 hI ha haL hi (fun M2 hS2 hI2 => ⟨rfl, hS2, fun a _ => by rw [hI2]⟩) P 0 M1 none (by omega) hS1 rfl
    · have hwx : (0 ≤ w ∧ w ≤ 50) = False := eq_false hw
      refine RO hS hC hMo hI (-2000000002) ?_ (fun M1 hS1 hM1 => ?_)
      · show EvD 20 90 [.ref 0, .int (nI i), .int w] M _
        rw [b_90 (by decide)]
        by_cases hn0 : w < 0
        · have hn0' : (0 ≤ w) = False := eq_false (Int32.not_le.mpr hn0)
          simp +decide only [e_90_0, e_90_1, e_90_4, e_90_5, e_90_8, e_90_11, e_90_13, e_90_14, e_90_15, e_90_18, e_90_19, e_90_21, e_90_24, e_90_26, e_90_27, e_90_28, e_90_29, e_90_30, ↓reduceIte, Int32.reduceAdd, Int32.reduceSub, an_0, an_1, an_2, an_3, an_4, an_5, tc_0, tc_1, tc_2, tc_3, tc_4, tc_5, tc_6, tc_7, tc_8, tc_9, tc_10, tc_11, tc_12, tc_13, tc_14, tc_15, tc_16, tc_17, tc_18, tc_19, tc_20, tc_21, tc_22, tc_23, tc_24, tc_25, tc_26, tc_27, tc_28, tc_29, tc_30, tc_31, tc_32, lcl_none, lcl_int, lcl_ref, lcl_null, lcl_long, okR_nil, okR_int, okR_ref, okR_null, okR_long, pushR_some, pushR_none, va_rf_some, va_rf_none, true_and, and_true, true_implies, false_implies, not_true_eq_false, not_false_eq_true, implies_true, bI_eq0, bI_eq1, bI_01, Classical.not_not, or_em, false_and, and_false, hS.1, hS.2.1, hS.2.2.1, hS.2.2.2.1, kT_0, kT_1, kT_2, kT_15, kT_16, kT_17, kT_18, kT_19, kT_80, kT_81, kT_82, kT_89, kT_90, kT_91, kT_92, kT_93, kT_94, kT_95, kT_96, kT_97, kT_98, kT_99, kT_100, kT_101, nT_2, nT_16, nT_17, nT_19, nT_81, nT_82, nT_90, nT_91, nT_94, nT_95, nT_97, nT_98, nT_100, nT_101, rT_0_0, rT_0_3, rT_0_4, rT_0_5, rT_0_6, rT_0_7, rT_0_8, rT_0_9, rT_0_10, rT_1_0, rT_15_0, rT_15_1, rT_18_0, rT_80_0, rT_80_1, rT_89_0, rT_89_1, rT_93_6, rT_93_7, rT_96_0, rT_96_1, rT_99_0, rT_99_1, chS1, chK, chR7, chK7, chN7, chR8, chK8, chN8, chR9, chK9, chN9, chR10, chK10, chN10, chR11, chK11, chN11, c_hasLife (d := 4) (by decide), a1, hy, hn0, hn0']
          exact hS
        · have hn0' : (0 ≤ w) = True := eq_true (Int32.not_lt.mp hn0)
          have hn50 : (w ≤ 50) = False := eq_false (fun z => hw ⟨Int32.not_lt.mp hn0, z⟩)
          simp +decide only [e_90_0, e_90_1, e_90_4, e_90_5, e_90_8, e_90_11, e_90_13, e_90_14, e_90_15, e_90_18, e_90_19, e_90_21, e_90_24, e_90_26, e_90_27, e_90_28, e_90_29, e_90_30, ↓reduceIte, Int32.reduceAdd, Int32.reduceSub, an_0, an_1, an_2, an_3, an_4, an_5, tc_0, tc_1, tc_2, tc_3, tc_4, tc_5, tc_6, tc_7, tc_8, tc_9, tc_10, tc_11, tc_12, tc_13, tc_14, tc_15, tc_16, tc_17, tc_18, tc_19, tc_20, tc_21, tc_22, tc_23, tc_24, tc_25, tc_26, tc_27, tc_28, tc_29, tc_30, tc_31, tc_32, lcl_none, lcl_int, lcl_ref, lcl_null, lcl_long, okR_nil, okR_int, okR_ref, okR_null, okR_long, pushR_some, pushR_none, va_rf_some, va_rf_none, true_and, and_true, true_implies, false_implies, not_true_eq_false, not_false_eq_true, implies_true, bI_eq0, bI_eq1, bI_01, Classical.not_not, or_em, false_and, and_false, hS.1, hS.2.1, hS.2.2.1, hS.2.2.2.1, kT_0, kT_1, kT_2, kT_15, kT_16, kT_17, kT_18, kT_19, kT_80, kT_81, kT_82, kT_89, kT_90, kT_91, kT_92, kT_93, kT_94, kT_95, kT_96, kT_97, kT_98, kT_99, kT_100, kT_101, nT_2, nT_16, nT_17, nT_19, nT_81, nT_82, nT_90, nT_91, nT_94, nT_95, nT_97, nT_98, nT_100, nT_101, rT_0_0, rT_0_3, rT_0_4, rT_0_5, rT_0_6, rT_0_7, rT_0_8, rT_0_9, rT_0_10, rT_1_0, rT_15_0, rT_15_1, rT_18_0, rT_80_0, rT_80_1, rT_89_0, rT_89_1, rT_93_6, rT_93_7, rT_96_0, rT_96_1, rT_99_0, rT_99_1, chS1, chK, chR7, chK7, chN7, chR8, chK8, chN8, chR9, chK9, chN9, chR10, chK10, chN10, chR11, chK11, chN11, c_hasLife (d := 4) (by decide), a1, hy, hn0, hn0', hn50]
          exact hS
      · show EvD 20 164 [.ref 102, .int (nI i), .int w] M1 _
        rw [b_164 (by decide)]
        simp +decide only [e_164_0, e_164_1, e_164_2, e_164_5, e_164_8, e_164_10, e_164_11, e_164_12, e_164_13, e_164_15, e_164_18, e_164_21, e_164_23, e_164_24, e_164_25, e_164_26, e_164_27, ↓reduceIte, Int32.reduceAdd, Int32.reduceSub, an_0, an_1, an_2, an_3, an_4, an_5, tc_0, tc_1, tc_2, tc_3, tc_4, tc_5, tc_6, tc_7, tc_8, tc_9, tc_10, tc_11, tc_12, tc_13, tc_14, tc_15, tc_16, tc_17, tc_18, tc_19, tc_20, tc_21, tc_22, tc_23, tc_24, tc_25, tc_26, tc_27, tc_28, tc_29, tc_30, tc_31, tc_32, lcl_none, lcl_int, lcl_ref, lcl_null, lcl_long, okR_nil, okR_int, okR_ref, okR_null, okR_long, pushR_some, pushR_none, va_rf_some, va_rf_none, true_and, and_true, true_implies, false_implies, not_true_eq_false, not_false_eq_true, implies_true, bI_eq0, bI_eq1, bI_01, Classical.not_not, or_em, false_and, and_false, hS1.1, hS1.2.1, hS1.2.2.1, kT_102, kT_103, kT_104, kT_105, kT_106, kT_107, kT_108, kT_109, kT_110, kT_111, kT_112, kT_113, kT_114, kT_115, kT_116, kT_117, kT_118, kT_119, kT_120, nT_103, nT_104, nT_105, nT_106, nT_107, nT_108, nT_109, nT_110, nT_111, nT_112, nT_113, nT_114, nT_115, nT_116, nT_117, nT_118, nT_119, nT_120, rT_102_1, rT_102_12, rT_102_13, rT_102_14, rT_102_18, rT_102_19, rT_102_20, rT_102_21, rT_102_22, rT_102_23, rT_102_25, rT_102_26, rT_102_27, rT_102_30, rT_102_31, rT_102_32, rT_102_33, rT_102_34, c_isLifeM (d := 6) (by decide) hS1, c_in (d := 6) (by decide), hym M1 hM1, hwx]
        exact hS1
  · have hy : (0 ≤ l ∧ l < σ 0 0) = False := by rw [iL]; exact eq_false hl
    refine RO hS hC hMo hI (-2000000001) ?_ (fun M1 hS1 hM1 => ?_)
    · show EvD 20 90 [.ref 0, .int l, .int w] M _
      rw [b_90 (by decide)]
      simp +decide only [e_90_0, e_90_1, e_90_4, e_90_5, e_90_8, e_90_11, e_90_13, e_90_14, e_90_15, e_90_18, e_90_19, e_90_21, e_90_24, e_90_26, e_90_27, e_90_28, e_90_29, e_90_30, ↓reduceIte, Int32.reduceAdd, Int32.reduceSub, an_0, an_1, an_2, an_3, an_4, an_5, tc_0, tc_1, tc_2, tc_3, tc_4, tc_5, tc_6, tc_7, tc_8, tc_9, tc_10, tc_11, tc_12, tc_13, tc_14, tc_15, tc_16, tc_17, tc_18, tc_19, tc_20, tc_21, tc_22, tc_23, tc_24, tc_25, tc_26, tc_27, tc_28, tc_29, tc_30, tc_31, tc_32, lcl_none, lcl_int, lcl_ref, lcl_null, lcl_long, okR_nil, okR_int, okR_ref, okR_null, okR_long, pushR_some, pushR_none, va_rf_some, va_rf_none, true_and, and_true, true_implies, false_implies, not_true_eq_false, not_false_eq_true, implies_true, bI_eq0, bI_eq1, bI_01, Classical.not_not, or_em, false_and, and_false, hS.1, hS.2.1, hS.2.2.1, hS.2.2.2.1, kT_0, kT_1, kT_2, kT_15, kT_16, kT_17, kT_18, kT_19, kT_80, kT_81, kT_82, kT_89, kT_90, kT_91, kT_92, kT_93, kT_94, kT_95, kT_96, kT_97, kT_98, kT_99, kT_100, kT_101, nT_2, nT_16, nT_17, nT_19, nT_81, nT_82, nT_90, nT_91, nT_94, nT_95, nT_97, nT_98, nT_100, nT_101, rT_0_0, rT_0_3, rT_0_4, rT_0_5, rT_0_6, rT_0_7, rT_0_8, rT_0_9, rT_0_10, rT_1_0, rT_15_0, rT_15_1, rT_18_0, rT_80_0, rT_80_1, rT_89_0, rT_89_1, rT_93_6, rT_93_7, rT_96_0, rT_96_1, rT_99_0, rT_99_1, chS1, chK, chR7, chK7, chN7, chR8, chK8, chN8, chR9, chK9, chN9, chR10, chK10, chN10, chR11, chK11, chN11, c_hasLife (d := 4) (by decide), a1, hy]
      exact hS
    · show EvD 20 164 [.ref 102, .int l, .int w] M1 _
      have hym : (0 ≤ l ∧ l ≤ mI M1 102 16 - 1) = False := by rw [hM1.1.1.1, iL, ix_pred hL]; exact eq_false hl
      rw [b_164 (by decide)]
      simp +decide only [e_164_0, e_164_1, e_164_2, e_164_5, e_164_8, e_164_10, e_164_11, e_164_12, e_164_13, e_164_15, e_164_18, e_164_21, e_164_23, e_164_24, e_164_25, e_164_26, e_164_27, ↓reduceIte, Int32.reduceAdd, Int32.reduceSub, an_0, an_1, an_2, an_3, an_4, an_5, tc_0, tc_1, tc_2, tc_3, tc_4, tc_5, tc_6, tc_7, tc_8, tc_9, tc_10, tc_11, tc_12, tc_13, tc_14, tc_15, tc_16, tc_17, tc_18, tc_19, tc_20, tc_21, tc_22, tc_23, tc_24, tc_25, tc_26, tc_27, tc_28, tc_29, tc_30, tc_31, tc_32, lcl_none, lcl_int, lcl_ref, lcl_null, lcl_long, okR_nil, okR_int, okR_ref, okR_null, okR_long, pushR_some, pushR_none, va_rf_some, va_rf_none, true_and, and_true, true_implies, false_implies, not_true_eq_false, not_false_eq_true, implies_true, bI_eq0, bI_eq1, bI_01, Classical.not_not, or_em, false_and, and_false, hS1.1, hS1.2.1, hS1.2.2.1, kT_102, kT_103, kT_104, kT_105, kT_106, kT_107, kT_108, kT_109, kT_110, kT_111, kT_112, kT_113, kT_114, kT_115, kT_116, kT_117, kT_118, kT_119, kT_120, nT_103, nT_104, nT_105, nT_106, nT_107, nT_108, nT_109, nT_110, nT_111, nT_112, nT_113, nT_114, nT_115, nT_116, nT_117, nT_118, nT_119, nT_120, rT_102_1, rT_102_12, rT_102_13, rT_102_14, rT_102_18, rT_102_19, rT_102_20, rT_102_21, rT_102_22, rT_102_23, rT_102_25, rT_102_26, rT_102_27, rT_102_30, rT_102_31, rT_102_32, rT_102_33, rT_102_34, c_isLifeM (d := 6) (by decide) hS1, hym]
      exact hS1
