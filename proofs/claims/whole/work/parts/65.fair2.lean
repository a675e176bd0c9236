/-! fair, the model -/
theorem M_fair {L P a j l n : Nat} {b : Bool} {σ : Sg} {M : ab_M} (hS : Sh b M) (hM : RM M σ) (hI : IV L P σ) (ha : σ 5 10 = nI a) (haL : a < 2 ^ L) (hj : j < P) (hl : l < L) (hn : n ≤ 20) (hh : σ 5 (5 + l) = nI j) : EvD 20 171 [.ref 102, .int (nI l), .int (nI n)] M (fun r M1 => r = some (.int ((nI (wC σ L P j n a) - nI (wG σ L P j l n a)) / 1000)) ∧ Sh b M1 ∧ ∀ a, a < 119 → mI M1 a = mI M a) := by
  obtain ⟨hL, hP, iL, iP⟩ := IV_n hI
  have h32 := pow_L hL
  have hne : nI j ≠ -1 := nI_ne_m1 (by omega)
  have hym : (0 ≤ nI l ∧ nI l ≤ mI M 102 16 - 1) = True := by rw [hM.1.1.1, iL, ix_pred hL]; exact eq_true (ix_nI (by omega) hl)
  have hnx : (0 ≤ nI n ∧ nI n ≤ 20) = True := eq_true ⟨nI_pos' (by omega), by rw [show (20 : Int32) = nI 20 from rfl, nI_leE (by omega) (by decide)]; exact hn⟩
  have e5 : (5 : Int32) + nI l = nI (5 + l) := nI_add 5 l
  have hcl : (nI (5 + l)).toNatClampNeg = 5 + l := nI_clamp (by omega)
  have hin : inX (nI (5 + l)) 14 = True := eq_true (inX_nI (by decide) (by omega))
  have h111 : mI M 111 (5 + l) = nI j := (hM.2.2.1 (5 + l) (by omega)).trans hh
  have hj1 : (nI j = -1) = False := eq_false hne
  have h10 : mI M 111 10 = nI a := (hM.2.2.1 10 (by decide)).trans ha
  rw [b_171 (by decide)]
  simp +decide only [e_171_0, e_171_1, e_171_2, e_171_5, e_171_8, e_171_10, e_171_11, e_171_12, e_171_13, e_171_15, e_171_18, e_171_21, e_171_23, e_171_24, e_171_25, e_171_28, e_171_29, e_171_30, e_171_31, e_171_32, e_171_33, e_171_34, e_171_35, e_171_38, e_171_40, e_171_41, e_171_42, e_171_43, e_171_44, e_171_45, e_171_48, e_171_50, e_171_51, ↓reduceIte, Int32.reduceAdd, Int32.reduceSub, an_0, an_1, an_2, an_3, an_4, an_5, tc_0, tc_1, tc_2, tc_3, tc_4, tc_5, tc_6, tc_7, tc_8, tc_9, tc_10, tc_11, tc_12, tc_13, tc_14, tc_15, tc_16, tc_17, tc_18, tc_19, tc_20, tc_21, tc_22, tc_23, tc_24, tc_25, tc_26, tc_27, tc_28, tc_29, tc_30, tc_31, tc_32, lcl_none, lcl_int, lcl_ref, lcl_null, lcl_long, okR_nil, okR_int, okR_ref, okR_null, okR_long, pushR_some, pushR_none, va_rf_some, va_rf_none, true_and, and_true, true_implies, false_implies, not_true_eq_false, not_false_eq_true, implies_true, bI_eq0, bI_eq1, bI_01, Classical.not_not, or_em, false_and, and_false, hS.1, hS.2.1, hS.2.2.1, hS.2.2.2.1, kT_102, kT_103, kT_104, kT_105, kT_106, kT_107, kT_108, kT_109, kT_110, kT_111, kT_112, kT_113, kT_114, kT_115, kT_116, kT_117, kT_118, kT_119, kT_120, nT_103, nT_104, nT_105, nT_106, nT_107, nT_108, nT_109, nT_110, nT_111, nT_112, nT_113, nT_114, nT_115, nT_116, nT_117, nT_118, nT_119, nT_120, rT_102_1, rT_102_12, rT_102_13, rT_102_14, rT_102_18, rT_102_19, rT_102_20, rT_102_21, rT_102_22, rT_102_23, rT_102_25, rT_102_26, rT_102_27, rT_102_30, rT_102_31, rT_102_32, rT_102_33, rT_102_34, c_isLifeM (d := 5) (by decide) hS, c_in (d := 5) (by decide), hym, hnx, e5, hcl, hin, h111, hj1, h10]
  have hMR := MR_of hI hM
  refine EvD_mono (c_worthNow (d := 5) (Nat.le_refl 5) hS hMR (TR_of hI hj) hne haL hn) ?_
  rintro r M1 ⟨rfl, hS1, hI1⟩
  have h10' : mI (wI M1 111 (5 + l) (-1)) 111 10 = nI a := by rw [mI_wI, if_neg (by omega), hI1]; exact h10
  have hS2 : Sh b (wI M1 111 (5 + l) (-1)) := hS1
  simp +decide only [e_171_54, e_171_56, e_171_57, e_171_60, e_171_61, e_171_62, e_171_63, e_171_64, e_171_65, e_171_66, e_171_67, e_171_68, e_171_69, e_171_72, e_171_74, e_171_75, ↓reduceIte, Int32.reduceAdd, Int32.reduceSub, an_0, an_1, an_2, an_3, an_4, an_5, tc_0, tc_1, tc_2, tc_3, tc_4, tc_5, tc_6, tc_7, tc_8, tc_9, tc_10, tc_11, tc_12, tc_13, tc_14, tc_15, tc_16, tc_17, tc_18, tc_19, tc_20, tc_21, tc_22, tc_23, tc_24, tc_25, tc_26, tc_27, tc_28, tc_29, tc_30, tc_31, tc_32, lcl_none, lcl_int, lcl_ref, lcl_null, lcl_long, okR_nil, okR_int, okR_ref, okR_null, okR_long, pushR_some, pushR_none, va_rf_some, va_rf_none, true_and, and_true, true_implies, false_implies, not_true_eq_false, not_false_eq_true, implies_true, bI_eq0, bI_eq1, bI_01, Classical.not_not, or_em, false_and, and_false, hS1.1, hS1.2.1, hS1.2.2.1, kT_102, kT_103, kT_104, kT_105, kT_106, kT_107, kT_108, kT_109, kT_110, kT_111, kT_112, kT_113, kT_114, kT_115, kT_116, kT_117, kT_118, kT_119, kT_120, nT_103, nT_104, nT_105, nT_106, nT_107, nT_108, nT_109, nT_110, nT_111, nT_112, nT_113, nT_114, nT_115, nT_116, nT_117, nT_118, nT_119, nT_120, rT_102_1, rT_102_12, rT_102_13, rT_102_14, rT_102_18, rT_102_19, rT_102_20, rT_102_21, rT_102_22, rT_102_23, rT_102_25, rT_102_26, rT_102_27, rT_102_30, rT_102_31, rT_102_32, rT_102_33, rT_102_34, e5, hcl, hin, h10', mR_wI, mK_wI, mN_wI]
  have hM2 : MR (wI M1 111 (5 + l) (-1)) L P (vN σ) (oqN σ) (tN σ) (upS (σ 5) (5 + l) (-1)) := by
    obtain ⟨q1, q2, q3, q4, q5, q6, q7⟩ := hMR
    refine ⟨?_, ?_, ?_, ?_, fun k hk => ?_, fun k hk => ?_, fun k hk hk2 => ?_⟩
    · rw [mI_wI_ne (by decide), hI1]; exact q1
    · rw [mI_wI_ne (by decide), hI1]; exact q2
    · rw [mI_wI_ne (by decide), hI1]; exact q3
    · rw [mI_wI_ne (by decide), hI1]; exact q4
    · rw [mI_wI_ne (by decide), hI1]; exact q5 k hk
    · by_cases e : k = 5 + l
      · rw [e, mI_wI, if_pos ⟨rfl, rfl⟩, upS_at]
      · rw [mI_wI, if_neg (fun z => e z.2), hI1, upS_ne e]; exact q6 k hk
    · rw [upS_ne (by omega)]; exact q7 k hk hk2
  have hT2 : TRp L P (vN σ) (oqN σ) (hsN (upS (σ 5) (5 + l) (-1)) (nI j)) (haN (upS (σ 5) (5 + l) (-1))) (tN σ) := by
    rw [hs_go (by omega) hne, ha_go (by omega)]
    exact TR_go hI hj (by omega)
  refine EvD_mono (c_worthNow (d := 5) (Nat.le_refl 5) hS2 hM2 hT2 hne haL hn) ?_
  rintro r M3 ⟨rfl, hS3, hI3⟩
  rw [upS_ne (by omega), upS_ne (by omega), hs_go (by omega) hne, ha_go (by omega)]
  simp +decide only [e_171_78, e_171_80, e_171_81, e_171_84, e_171_85, e_171_86, e_171_87, e_171_88, e_171_89, e_171_91, e_171_93, e_171_94, e_171_97, e_171_98, ↓reduceIte, Int32.reduceAdd, Int32.reduceSub, an_0, an_1, an_2, an_3, an_4, an_5, tc_0, tc_1, tc_2, tc_3, tc_4, tc_5, tc_6, tc_7, tc_8, tc_9, tc_10, tc_11, tc_12, tc_13, tc_14, tc_15, tc_16, tc_17, tc_18, tc_19, tc_20, tc_21, tc_22, tc_23, tc_24, tc_25, tc_26, tc_27, tc_28, tc_29, tc_30, tc_31, tc_32, lcl_none, lcl_int, lcl_ref, lcl_null, lcl_long, okR_nil, okR_int, okR_ref, okR_null, okR_long, pushR_some, pushR_none, va_rf_some, va_rf_none, true_and, and_true, true_implies, false_implies, not_true_eq_false, not_false_eq_true, implies_true, bI_eq0, bI_eq1, bI_01, Classical.not_not, or_em, false_and, and_false, hS3.1, hS3.2.1, hS3.2.2.1, kT_102, kT_103, kT_104, kT_105, kT_106, kT_107, kT_108, kT_109, kT_110, kT_111, kT_112, kT_113, kT_114, kT_115, kT_116, kT_117, kT_118, kT_119, kT_120, nT_103, nT_104, nT_105, nT_106, nT_107, nT_108, nT_109, nT_110, nT_111, nT_112, nT_113, nT_114, nT_115, nT_116, nT_117, nT_118, nT_119, nT_120, rT_102_1, rT_102_12, rT_102_13, rT_102_14, rT_102_18, rT_102_19, rT_102_20, rT_102_21, rT_102_22, rT_102_23, rT_102_25, rT_102_26, rT_102_27, rT_102_30, rT_102_31, rT_102_32, rT_102_33, rT_102_34, e5, hcl, hin]
  refine ⟨rfl, hS3, fun c hc => ?_⟩
  by_cases e : c = 111
  · funext k
    rw [e, mI_wI]
    by_cases ek : k = 5 + l
    · rw [if_pos ⟨rfl, ek⟩, ek, h111]
    · rw [if_neg (fun z => ek z.2), hI3, mI_wI, if_neg (fun z => ek z.2), hI1]
  · rw [mI_wI_ne e, hI3, mI_wI_ne e, hI1]
theorem op_fair (l n : Int32) (M : ab_M) (hM : Rel M) : lwStep Rel 93 171 [l, n] M := by
  obtain ⟨b, σ, L, P, hS, hC, hMo, hI⟩ := hM
  obtain ⟨hL, hP, iL, iP⟩ := IV_n hI
  obtain ⟨a, ha32, haL, ha⟩ := IV_al hI
  have a1 := hC.1.1.1
  have a2 := hC.1.1.2.1
  by_cases hl : 0 ≤ l ∧ l < nI L
  · have hy : (0 ≤ l ∧ l < σ 0 0) = True := by rw [iL]; exact eq_true hl
    have hym : ∀ M1, RM M1 σ → (0 ≤ l ∧ l ≤ mI M1 102 16 - 1) = True := fun M1 h => by rw [h.1.1.1, iL, ix_pred hL]; exact eq_true hl
    obtain ⟨i, hi, rfl⟩ := of_ix (by omega) hl
    by_cases hn : 0 ≤ n ∧ n ≤ 20
    · have hnx : (0 ≤ n ∧ n ≤ 20) = True := eq_true hn
      have hn0 : (n < 0) = False := eq_false (Int32.not_lt.mpr hn.1)
      have hn0' : (0 ≤ n) = True := eq_true hn.1
      have hn20 : (n ≤ 20) = True := eq_true hn.2
      obtain ⟨k, hk, rfl⟩ := of_20 hn
      rcases hI.2.2.2.2.2.2.2.1.2.2.1 i (by omega) with hh | ⟨j, hj, hh⟩
      · have cl : (nI i).toNatClampNeg = i := nI_clamp (by omega)
        have il : inX (nI i) 5 = True := eq_true (inX_nI (by decide) (by omega))
        have h17 : mI M 17 i = -1 := (hC.2.2.1.2.1 i (by omega)).trans hh
        have hx : ((0 : Int32) ≤ -1 ∧ -1 < σ 0 1) = False := eq_false (fun z => absurd z.1 (by decide))
        refine RO hS hC hMo hI (-2000000003) ?_ (fun M1 hS1 hM1 => ?_)
        · show EvD 20 93 [.ref 0, .int (nI i), .int (nI k)] M _
          rw [b_93 (by decide)]
          simp +decide only [e_93_0, e_93_1, e_93_4, e_93_5, e_93_8, e_93_11, e_93_13, e_93_14, e_93_15, e_93_18, e_93_19, e_93_21, e_93_24, e_93_26, e_93_27, e_93_28, e_93_31, e_93_34, e_93_35, e_93_36, e_93_37, e_93_38, e_93_41, e_93_42, e_93_45, e_93_48, e_93_50, e_93_51, e_93_52, e_93_55, e_93_56, e_93_59, e_93_60, e_93_63, e_93_64, ↓reduceIte, Int32.reduceAdd, Int32.reduceSub, an_0, an_1, an_2, an_3, an_4, an_5, tc_0, tc_1, tc_2, tc_3, tc_4, tc_5, tc_6, tc_7, tc_8, tc_9, tc_10, tc_11, tc_12, tc_13, tc_14, tc_15, tc_16, tc_17, tc_18, tc_19, tc_20, tc_21, tc_22, tc_23, tc_24, tc_25, tc_26, tc_27, tc_28, tc_29, tc_30, tc_31, tc_32, lcl_none, lcl_int, lcl_ref, lcl_null, lcl_long, okR_nil, okR_int, okR_ref, okR_null, okR_long, pushR_some, pushR_none, va_rf_some, va_rf_none, true_and, and_true, true_implies, false_implies, not_true_eq_false, not_false_eq_true, implies_true, bI_eq0, bI_eq1, bI_01, Classical.not_not, or_em, false_and, and_false, hS.1, hS.2.1, hS.2.2.1, hS.2.2.2.1, kT_0, kT_1, kT_2, kT_15, kT_16, kT_17, kT_18, kT_19, kT_80, kT_81, kT_82, kT_89, kT_90, kT_91, kT_92, kT_93, kT_94, kT_95, kT_96, kT_97, kT_98, kT_99, kT_100, kT_101, nT_2, nT_16, nT_17, nT_19, nT_81, nT_82, nT_90, nT_91, nT_94, nT_95, nT_97, nT_98, nT_100, nT_101, rT_0_0, rT_0_3, rT_0_4, rT_0_5, rT_0_6, rT_0_7, rT_0_8, rT_0_9, rT_0_10, rT_1_0, rT_15_0, rT_15_1, rT_18_0, rT_80_0, rT_80_1, rT_89_0, rT_89_1, rT_93_6, rT_93_7, rT_96_0, rT_96_1, rT_99_0, rT_99_1, chS1, chK, chR7, chK7, chN7, chR8, chK8, chN8, chR9, chK9, chN9, chR10, chK10, chN10, chR11, chK11, chN11, c_hasLife (d := 4) (by decide), c_hasSub (d := 4) (by decide), a1, a2, hx, hy, hn0, hn0', hn20, cl, il, h17]
          exact hS
        · show EvD 20 171 [.ref 102, .int (nI i), .int (nI k)] M1 _
          have e5 : (5 : Int32) + nI i = nI (5 + i) := nI_add 5 i
          have hcl : (nI (5 + i)).toNatClampNeg = 5 + i := nI_clamp (by omega)
          have hin : inX (nI (5 + i)) 14 = True := eq_true (inX_nI (by decide) (by omega))
          have h111 : mI M1 111 (5 + i) = -1 := (hM1.2.2.1 (5 + i) (by omega)).trans hh
          rw [b_171 (by decide)]
          simp +decide only [e_171_0, e_171_1, e_171_2, e_171_5, e_171_8, e_171_10, e_171_11, e_171_12, e_171_13, e_171_15, e_171_18, e_171_21, e_171_23, e_171_24, e_171_25, e_171_28, e_171_29, e_171_30, e_171_31, e_171_32, e_171_33, e_171_34, e_171_35, e_171_38, e_171_40, ↓reduceIte, Int32.reduceAdd, Int32.reduceSub, an_0, an_1, an_2, an_3, an_4, an_5, tc_0, tc_1, tc_2, tc_3, tc_4, tc_5, tc_6, tc_7, tc_8, tc_9, tc_10, tc_11, tc_12, tc_13, tc_14, tc_15, tc_16, tc_17, tc_18, tc_19, tc_20, tc_21, tc_22, tc_23, tc_24, tc_25, tc_26, tc_27, tc_28, tc_29, tc_30, tc_31, tc_32, lcl_none, lcl_int, lcl_ref, lcl_null, lcl_long, okR_nil, okR_int, okR_ref, okR_null, okR_long, pushR_some, pushR_none, va_rf_some, va_rf_none, true_and, and_true, true_implies, false_implies, not_true_eq_false, not_false_eq_true, implies_true, bI_eq0, bI_eq1, bI_01, Classical.not_not, or_em, false_and, and_false, hS1.1, hS1.2.1, hS1.2.2.1, kT_102, kT_103, kT_104, kT_105, kT_106, kT_107, kT_108, kT_109, kT_110, kT_111, kT_112, kT_113, kT_114, kT_115, kT_116, kT_117, kT_118, kT_119, kT_120, nT_103, nT_104, nT_105, nT_106, nT_107, nT_108, nT_109, nT_110, nT_111, nT_112, nT_113, nT_114, nT_115, nT_116, nT_117, nT_118, nT_119, nT_120, rT_102_1, rT_102_12, rT_102_13, rT_102_14, rT_102_18, rT_102_19, rT_102_20, rT_102_21, rT_102_22, rT_102_23, rT_102_25, rT_102_26, rT_102_27, rT_102_30, rT_102_31, rT_102_32, rT_102_33, rT_102_34, c_isLifeM (d := 5) (by decide) hS1, c_in (d := 5) (by decide), hym M1 hM1, hnx, e5, hcl, hin, h111]
          exact hS1
      · exact RO hS hC hMo hI ((nI (wC σ L P j k a) - nI (wG σ L P j i k a)) / 1000) (C_fair hS hC hI ha haL hj hi hk hh) (fun M1 hS1 hM1 => M_fair hS1 hM1 hI ha haL hj hi hk hh)
    · have hnx : (0 ≤ n ∧ n ≤ 20) = False := eq_false hn
      refine RO hS hC hMo hI (-2000000002) ?_ (fun M1 hS1 hM1 => ?_)
      · show EvD 20 93 [.ref 0, .int (nI i), .int n] M _
        rw [b_93 (by decide)]
        by_cases hn0 : n < 0
        · have hn0' : (0 ≤ n) = False := eq_false (Int32.not_le.mpr hn0)
          simp +decide only [e_93_0, e_93_1, e_93_4, e_93_5, e_93_8, e_93_11, e_93_13, e_93_14, e_93_15, e_93_18, e_93_19, e_93_21, e_93_24, e_93_26, ↓reduceIte, Int32.reduceAdd, Int32.reduceSub, an_0, an_1, an_2, an_3, an_4, an_5, tc_0, tc_1, tc_2, tc_3, tc_4, tc_5, tc_6, tc_7, tc_8, tc_9, tc_10, tc_11, tc_12, tc_13, tc_14, tc_15, tc_16, tc_17, tc_18, tc_19, tc_20, tc_21, tc_22, tc_23, tc_24, tc_25, tc_26, tc_27, tc_28, tc_29, tc_30, tc_31, tc_32, lcl_none, lcl_int, lcl_ref, lcl_null, lcl_long, okR_nil, okR_int, okR_ref, okR_null, okR_long, pushR_some, pushR_none, va_rf_some, va_rf_none, true_and, and_true, true_implies, false_implies, not_true_eq_false, not_false_eq_true, implies_true, bI_eq0, bI_eq1, bI_01, Classical.not_not, or_em, false_and, and_false, hS.1, hS.2.1, hS.2.2.1, hS.2.2.2.1, kT_0, kT_1, kT_2, kT_15, kT_16, kT_17, kT_18, kT_19, kT_80, kT_81, kT_82, kT_89, kT_90, kT_91, kT_92, kT_93, kT_94, kT_95, kT_96, kT_97, kT_98, kT_99, kT_100, kT_101, nT_2, nT_16, nT_17, nT_19, nT_81, nT_82, nT_90, nT_91, nT_94, nT_95, nT_97, nT_98, nT_100, nT_101, rT_0_0, rT_0_3, rT_0_4, rT_0_5, rT_0_6, rT_0_7, rT_0_8, rT_0_9, rT_0_10, rT_1_0, rT_15_0, rT_15_1, rT_18_0, rT_80_0, rT_80_1, rT_89_0, rT_89_1, rT_93_6, rT_93_7, rT_96_0, rT_96_1, rT_99_0, rT_99_1, chS1, chK, chR7, chK7, chN7, chR8, chK8, chN8, chR9, chK9, chN9, chR10, chK10, chN10, chR11, chK11, chN11, c_hasLife (d := 4) (by decide), a1, hy, hn0, hn0']
          exact hS
        · have hn0' : (0 ≤ n) = True := eq_true (Int32.not_lt.mp hn0)
          have hn20 : (n ≤ 20) = False := eq_false (fun z => hn ⟨Int32.not_lt.mp hn0, z⟩)
          simp +decide only [e_93_0, e_93_1, e_93_4, e_93_5, e_93_8, e_93_11, e_93_13, e_93_14, e_93_15, e_93_18, e_93_19, e_93_21, e_93_24, e_93_26, ↓reduceIte, Int32.reduceAdd, Int32.reduceSub, an_0, an_1, an_2, an_3, an_4, an_5, tc_0, tc_1, tc_2, tc_3, tc_4, tc_5, tc_6, tc_7, tc_8, tc_9, tc_10, tc_11, tc_12, tc_13, tc_14, tc_15, tc_16, tc_17, tc_18, tc_19, tc_20, tc_21, tc_22, tc_23, tc_24, tc_25, tc_26, tc_27, tc_28, tc_29, tc_30, tc_31, tc_32, lcl_none, lcl_int, lcl_ref, lcl_null, lcl_long, okR_nil, okR_int, okR_ref, okR_null, okR_long, pushR_some, pushR_none, va_rf_some, va_rf_none, true_and, and_true, true_implies, false_implies, not_true_eq_false, not_false_eq_true, implies_true, bI_eq0, bI_eq1, bI_01, Classical.not_not, or_em, false_and, and_false, hS.1, hS.2.1, hS.2.2.1, hS.2.2.2.1, kT_0, kT_1, kT_2, kT_15, kT_16, kT_17, kT_18, kT_19, kT_80, kT_81, kT_82, kT_89, kT_90, kT_91, kT_92, kT_93, kT_94, kT_95, kT_96, kT_97, kT_98, kT_99, kT_100, kT_101, nT_2, nT_16, nT_17, nT_19, nT_81, nT_82, nT_90, nT_91, nT_94, nT_95, nT_97, nT_98, nT_100, nT_101, rT_0_0, rT_0_3, rT_0_4, rT_0_5, rT_0_6, rT_0_7, rT_0_8, rT_0_9, rT_0_10, rT_1_0, rT_15_0, rT_15_1, rT_18_0, rT_80_0, rT_80_1, rT_89_0, rT_89_1, rT_93_6, rT_93_7, rT_96_0, rT_96_1, rT_99_0, rT_99_1, chS1, chK, chR7, chK7, chN7, chR8, chK8, chN8, chR9, chK9, chN9, chR10, chK10, chN10, chR11, chK11, chN11, c_hasLife (d := 4) (by decide), a1, hy, hn0, hn0', hn20]
          exact hS
      · show EvD 20 171 [.ref 102, .int (nI i), .int n] M1 _
        rw [b_171 (by decide)]
        simp +decide only [e_171_0, e_171_1, e_171_2, e_171_5, e_171_8, e_171_10, e_171_11, e_171_12, e_171_13, e_171_15, e_171_18, e_171_21, e_171_23, ↓reduceIte, Int32.reduceAdd, Int32.reduceSub, an_0, an_1, an_2, an_3, an_4, an_5, tc_0, tc_1, tc_2, tc_3, tc_4, tc_5, tc_6, tc_7, tc_8, tc_9, tc_10, tc_11, tc_12, tc_13, tc_14, tc_15, tc_16, tc_17, tc_18, tc_19, tc_20, tc_21, tc_22, tc_23, tc_24, tc_25, tc_26, tc_27, tc_28, tc_29, tc_30, tc_31, tc_32, lcl_none, lcl_int, lcl_ref, lcl_null, lcl_long, okR_nil, okR_int, okR_ref, okR_null, okR_long, pushR_some, pushR_none, va_rf_some, va_rf_none, true_and, and_true, true_implies, false_implies, not_true_eq_false, not_false_eq_true, implies_true, bI_eq0, bI_eq1, bI_01, Classical.not_not, or_em, false_and, and_false, hS1.1, hS1.2.1, hS1.2.2.1, kT_102, kT_103, kT_104, kT_105, kT_106, kT_107, kT_108, kT_109, kT_110, kT_111, kT_112, kT_113, kT_114, kT_115, kT_116, kT_117, kT_118, kT_119, kT_120, nT_103, nT_104, nT_105, nT_106, nT_107, nT_108, nT_109, nT_110, nT_111, nT_112, nT_113, nT_114, nT_115, nT_116, nT_117, nT_118, nT_119, nT_120, rT_102_1, rT_102_12, rT_102_13, rT_102_14, rT_102_18, rT_102_19, rT_102_20, rT_102_21, rT_102_22, rT_102_23, rT_102_25, rT_102_26, rT_102_27, rT_102_30, rT_102_31, rT_102_32, rT_102_33, rT_102_34, c_isLifeM (d := 5) (by decide) hS1, c_in (d := 5) (by decide), hym M1 hM1, hnx]
        exact hS1
  · have hy : (0 ≤ l ∧ l < σ 0 0) = False := by rw [iL]; exact eq_false hl
    refine RO hS hC hMo hI (-2000000001) ?_ (fun M1 hS1 hM1 => ?_)
    · show EvD 20 93 [.ref 0, .int l, .int n] M _
      rw [b_93 (by decide)]
      simp +decide only [e_93_0, e_93_1, e_93_4, e_93_5, e_93_8, e_93_11, e_93_13, e_93_14, e_93_15, e_93_18, e_93_19, e_93_21, e_93_24, e_93_26, ↓reduceIte, Int32.reduceAdd, Int32.reduceSub, an_0, an_1, an_2, an_3, an_4, an_5, tc_0, tc_1, tc_2, tc_3, tc_4, tc_5, tc_6, tc_7, tc_8, tc_9, tc_10, tc_11, tc_12, tc_13, tc_14, tc_15, tc_16, tc_17, tc_18, tc_19, tc_20, tc_21, tc_22, tc_23, tc_24, tc_25, tc_26, tc_27, tc_28, tc_29, tc_30, tc_31, tc_32, lcl_none, lcl_int, lcl_ref, lcl_null, lcl_long, okR_nil, okR_int, okR_ref, okR_null, okR_long, pushR_some, pushR_none, va_rf_some, va_rf_none, true_and, and_true, true_implies, false_implies, not_true_eq_false, not_false_eq_true, implies_true, bI_eq0, bI_eq1, bI_01, Classical.not_not, or_em, false_and, and_false, hS.1, hS.2.1, hS.2.2.1, hS.2.2.2.1, kT_0, kT_1, kT_2, kT_15, kT_16, kT_17, kT_18, kT_19, kT_80, kT_81, kT_82, kT_89, kT_90, kT_91, kT_92, kT_93, kT_94, kT_95, kT_96, kT_97, kT_98, kT_99, kT_100, kT_101, nT_2, nT_16, nT_17, nT_19, nT_81, nT_82, nT_90, nT_91, nT_94, nT_95, nT_97, nT_98, nT_100, nT_101, rT_0_0, rT_0_3, rT_0_4, rT_0_5, rT_0_6, rT_0_7, rT_0_8, rT_0_9, rT_0_10, rT_1_0, rT_15_0, rT_15_1, rT_18_0, rT_80_0, rT_80_1, rT_89_0, rT_89_1, rT_93_6, rT_93_7, rT_96_0, rT_96_1, rT_99_0, rT_99_1, chS1, chK, chR7, chK7, chN7, chR8, chK8, chN8, chR9, chK9, chN9, chR10, chK10, chN10, chR11, chK11, chN11, c_hasLife (d := 4) (by decide), a1, hy]
      exact hS
    · show EvD 20 171 [.ref 102, .int l, .int n] M1 _
      have hym : (0 ≤ l ∧ l ≤ mI M1 102 16 - 1) = False := by rw [hM1.1.1.1, iL, ix_pred hL]; exact eq_false hl
      rw [b_171 (by decide)]
      simp +decide only [e_171_0, e_171_1, e_171_2, e_171_5, e_171_8, e_171_10, e_171_11, e_171_12, e_171_13, e_171_15, e_171_18, e_171_21, e_171_23, ↓reduceIte, Int32.reduceAdd, Int32.reduceSub, an_0, an_1, an_2, an_3, an_4, an_5, tc_0, tc_1, tc_2, tc_3, tc_4, tc_5, tc_6, tc_7, tc_8, tc_9, tc_10, tc_11, tc_12, tc_13, tc_14, tc_15, tc_16, tc_17, tc_18, tc_19, tc_20, tc_21, tc_22, tc_23, tc_24, tc_25, tc_26, tc_27, tc_28, tc_29, tc_30, tc_31, tc_32, lcl_none, lcl_int, lcl_ref, lcl_null, lcl_long, okR_nil, okR_int, okR_ref, okR_null, okR_long, pushR_some, pushR_none, va_rf_some, va_rf_none, true_and, and_true, true_implies, false_implies, not_true_eq_false, not_false_eq_true, implies_true, bI_eq0, bI_eq1, bI_01, Classical.not_not, or_em, false_and, and_false, hS1.1, hS1.2.1, hS1.2.2.1, kT_102, kT_103, kT_104, kT_105, kT_106, kT_107, kT_108, kT_109, kT_110, kT_111, kT_112, kT_113, kT_114, kT_115, kT_116, kT_117, kT_118, kT_119, kT_120, nT_103, nT_104, nT_105, nT_106, nT_107, nT_108, nT_109, nT_110, nT_111, nT_112, nT_113, nT_114, nT_115, nT_116, nT_117, nT_118, nT_119, nT_120, rT_102_1, rT_102_12, rT_102_13, rT_102_14, rT_102_18, rT_102_19, rT_102_20, rT_102_21, rT_102_22, rT_102_23, rT_102_25, rT_102_26, rT_102_27, rT_102_30, rT_102_31, rT_102_32, rT_102_33, rT_102_34, c_isLifeM (d := 5) (by decide) hS1, hym]
      exact hS1
