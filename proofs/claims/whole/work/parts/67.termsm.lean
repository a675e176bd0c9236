/-! terms, the model -/
theorem c_gainByG {d L P V T n l a : Nat} {b : Bool} {q : Nat → Nat} {S : Nat → Int32} {s : Int32} {M : ab_M} (hd : 6 ≤ d) (hS : Sh b M) (hM : MR M L P V q T S) (hp : TRp L P V q (hsN S s) (haN S) T) (hs : s ≠ -1) (ha : S 10 = nI a) (ha2 : a < 2 ^ L) (hl : l < L) (hn : n ≤ 20) : EvD d 160 [.ref 102, .int s, .int (nI l), .int (nI n)] M (fun r M1 => r = some (.int (nI (wnN L (cfN q 0 0) (cfN q (S 11) (S 12)) (pvN V T P (hsN S s) (haN S)) n (clN (seN a l) l)) - nI (wnN L (cfN q 0 0) (cfN q (S 11) (S 12)) (pvN V T P (hsN S s) (haN S)) n (seN a l)))) ∧ Sh b M1 ∧ mI M1 = mI M) := by
  have hL := hp.1
  have h32 := pow_L hL
  have h10 : mI M 111 10 = nI a := (hM.2.2.2.2.2.1 10 (by decide)).trans ha
  have e1 := se_nI a (by omega) l (by omega)
  have h3 := seN_lt L hL a ha2 l hl
  have e2 : nI (seN a l) &&& ((1 : Int32) <<< (nI l &&& 31) ^^^ (-1)) = nI (clN (seN a l) l) := clr_nI _ (by omega) l (by omega)
  have hle := clN_le (seN a l) l
  rw [b_160 hd]
  simp +decide only [e_160_0, e_160_1, e_160_4, e_160_6, e_160_7, e_160_8, e_160_9, e_160_10, e_160_11, e_160_13, e_160_14, e_160_15, e_160_16, e_160_18, e_160_19, e_160_20, e_160_21, e_160_22, e_160_23, e_160_24, ↓reduceIte, Int32.reduceAdd, Int32.reduceSub, an_0, an_1, an_2, an_3, an_4, an_5, tc_0, tc_1, tc_2, tc_3, tc_4, tc_5, tc_6, tc_7, tc_8, tc_9, tc_10, tc_11, tc_12, tc_13, tc_14, tc_15, tc_16, tc_17, tc_18, tc_19, tc_20, tc_21, tc_22, tc_23, tc_24, tc_25, tc_26, tc_27, tc_28, tc_29, tc_30, tc_31, tc_32, lcl_none, lcl_int, lcl_ref, lcl_null, lcl_long, okR_nil, okR_int, okR_ref, okR_null, okR_long, pushR_some, pushR_none, va_rf_some, va_rf_none, true_and, and_true, true_implies, false_implies, not_true_eq_false, not_false_eq_true, implies_true, bI_eq0, bI_eq1, bI_01, Classical.not_not, or_em, false_and, and_false, hS.1, hS.2.1, hS.2.2.1, hS.2.2.2.1, kT_102, kT_103, kT_104, kT_105, kT_106, kT_107, kT_108, kT_109, kT_110, kT_111, kT_112, kT_113, kT_114, kT_115, kT_116, kT_117, kT_118, kT_119, kT_120, nT_103, nT_104, nT_105, nT_106, nT_107, nT_108, nT_109, nT_110, nT_111, nT_112, nT_113, nT_114, nT_115, nT_116, nT_117, nT_118, nT_119, nT_120, rT_102_1, rT_102_12, rT_102_13, rT_102_14, rT_102_18, rT_102_19, rT_102_20, rT_102_21, rT_102_22, rT_102_23, rT_102_25, rT_102_26, rT_102_27, rT_102_30, rT_102_31, rT_102_32, rT_102_33, rT_102_34, h10, e1, e2]
  refine EvD_mono (c_worthNow (d := 5) (Nat.le_refl 5) hS hM hp hs (Nat.lt_of_le_of_lt hle h3) hn) ?_
  rintro r M1 ⟨rfl, hS1, hI1⟩
  have hM1 : MR M1 L P V q T S := by unfold MR at hM ⊢; rw [hI1]; exact hM
  simp +decide only [e_160_27, e_160_28, e_160_29, e_160_30, e_160_32, ↓reduceIte, Int32.reduceAdd, Int32.reduceSub, an_0, an_1, an_2, an_3, an_4, an_5, tc_0, tc_1, tc_2, tc_3, tc_4, tc_5, tc_6, tc_7, tc_8, tc_9, tc_10, tc_11, tc_12, tc_13, tc_14, tc_15, tc_16, tc_17, tc_18, tc_19, tc_20, tc_21, tc_22, tc_23, tc_24, tc_25, tc_26, tc_27, tc_28, tc_29, tc_30, tc_31, tc_32, lcl_none, lcl_int, lcl_ref, lcl_null, lcl_long, okR_nil, okR_int, okR_ref, okR_null, okR_long, pushR_some, pushR_none, va_rf_some, va_rf_none, true_and, and_true, true_implies, false_implies, not_true_eq_false, not_false_eq_true, implies_true, bI_eq0, bI_eq1, bI_01, Classical.not_not, or_em, false_and, and_false, hS1.1, kT_102]
  refine EvD_mono (c_worthNow (d := 5) (Nat.le_refl 5) hS1 hM1 hp hs h3 hn) ?_
  rintro r M2 ⟨rfl, hS2, hI2⟩
  simp +decide only [e_160_35, e_160_36, ↓reduceIte, Int32.reduceAdd, Int32.reduceSub, an_0, an_1, an_2, an_3, an_4, an_5, tc_0, tc_1, tc_2, tc_3, tc_4, tc_5, tc_6, tc_7, tc_8, tc_9, tc_10, tc_11, tc_12, tc_13, tc_14, tc_15, tc_16, tc_17, tc_18, tc_19, tc_20, tc_21, tc_22, tc_23, tc_24, tc_25, tc_26, tc_27, tc_28, tc_29, tc_30, tc_31, tc_32, lcl_none, lcl_int, lcl_ref, lcl_null, lcl_long, okR_nil, okR_int, okR_ref, okR_null, okR_long, pushR_some, pushR_none, va_rf_some, va_rf_none, true_and, and_true, true_implies, false_implies, not_true_eq_false, not_false_eq_true, implies_true, bI_eq0, bI_eq1, bI_01, Classical.not_not, or_em, false_and, and_false]
  exact ⟨hS2, hI2.trans hI1⟩
theorem L_tI {L P a n T j : Nat} {b : Bool} {σ : Sg} {X : Bool} {old best : Int32} {M0 : ab_M} {Q : ab_Q} (hM0 : MR M0 L P (vN σ) (oqN σ) T (σ 5)) (hI : IV L P σ) (ha : σ 5 10 = nI a) (haL : a < 2 ^ L) (hj : j < P) (hn : n ≤ 20) (hT : T ≤ 10) (hQ : ∀ M1, Sh b M1 → mI M1 = mI M0 → Ev 6 163 119 [some (.ref 102), some (.int (nI n)), some (.int old), some (.int best), some (.int (nI T)), some (.int (b01 (X || anB (dgB (wT σ L P T j n) a (otN σ a j)) L))), some (.int (nI j)), some (.int (nI L))] [] M1 Q) : ∀ m l M v5, l + m = L → v5 = b01 (X || anB (dgB (wT σ L P T j n) a (otN σ a j)) l) → Sh b M → mI M = mI M0 → Ev 6 163 57 [some (.ref 102), some (.int (nI n)), some (.int old), some (.int best), some (.int (nI T)), some (.int v5), some (.int (nI j)), some (.int (nI l))] [] M Q := by
  obtain ⟨hL, hP, iL, iP⟩ := IV_n hI
  have h32 := pow_L hL
  have w30 := wT_30 hI hj hT hn
  have hne : nI j ≠ -1 := nI_ne_m1 (by omega)
  intro m
  induction m with
  | zero =>
    intro l M v5 hl h5 hS hI2
    have hM : MR M L P (vN σ) (oqN σ) T (σ 5) := by unfold MR at hM0 ⊢; rw [hI2]; exact hM0
    have a1 : mI M 102 16 = nI L := hM.1
    have h1 : (nI L ≤ nI l) = True := by rw [nI_leE (by omega) (by omega)]; exact eq_true (by omega)
    rw [e_163_57]
    simp +decide only [e_163_59, e_163_60, e_163_63, ↓reduceIte, Int32.reduceAdd, Int32.reduceSub, an_0, an_1, an_2, an_3, an_4, an_5, tc_0, tc_1, tc_2, tc_3, tc_4, tc_5, tc_6, tc_7, tc_8, tc_9, tc_10, tc_11, tc_12, tc_13, tc_14, tc_15, tc_16, tc_17, tc_18, tc_19, tc_20, tc_21, tc_22, tc_23, tc_24, tc_25, tc_26, tc_27, tc_28, tc_29, tc_30, tc_31, tc_32, lcl_none, lcl_int, lcl_ref, lcl_null, lcl_long, okR_nil, okR_int, okR_ref, okR_null, okR_long, pushR_some, pushR_none, va_rf_some, va_rf_none, true_and, and_true, true_implies, false_implies, not_true_eq_false, not_false_eq_true, implies_true, bI_eq0, bI_eq1, bI_01, Classical.not_not, or_em, false_and, and_false, hS.1, hS.2.1, hS.2.2.1, hS.2.2.2.1, kT_102, kT_103, kT_104, kT_105, kT_106, kT_107, kT_108, kT_109, kT_110, kT_111, kT_112, kT_113, kT_114, kT_115, kT_116, kT_117, kT_118, kT_119, kT_120, nT_103, nT_104, nT_105, nT_106, nT_107, nT_108, nT_109, nT_110, nT_111, nT_112, nT_113, nT_114, nT_115, nT_116, nT_117, nT_118, nT_119, nT_120, rT_102_1, rT_102_12, rT_102_13, rT_102_14, rT_102_18, rT_102_19, rT_102_20, rT_102_21, rT_102_22, rT_102_23, rT_102_25, rT_102_26, rT_102_27, rT_102_30, rT_102_31, rT_102_32, rT_102_33, rT_102_34, a1, h1]
    rw [h5, show l = L by omega]
    exact hQ M hS hI2
  | succ m ih =>
    intro l M v5 hl h5 hS hI2
    have hM : MR M L P (vN σ) (oqN σ) T (σ 5) := by unfold MR at hM0 ⊢; rw [hI2]; exact hM0
    have a1 : mI M 102 16 = nI L := hM.1
    have h10 : mI M 111 10 = nI a := (hM.2.2.2.2.2.1 10 (by decide)).trans ha
    have h1 : (nI L ≤ nI l) = False := by rw [nI_leE (by omega) (by omega)]; exact eq_false (by omega)
    have hbl := hasB_b (x := a) (l := l) (by omega) (by omega)
    have hos := ot_S (σ := σ) (a := a) (j := j) (l := l) (by omega) (by omega)
    have e5 : (5 : Int32) + nI l = nI (5 + l) := nI_add 5 l
    have hcl : (nI (5 + l)).toNatClampNeg = 5 + l := nI_clamp (by omega)
    have hin : inX (nI (5 + l)) 14 = True := eq_true (inX_nI (by decide) (by omega))
    have hh : mI M 111 (5 + l) = σ 5 (5 + l) := hM.2.2.2.2.2.1 (5 + l) (by omega)
    have en : (X || anB (dgB (wT σ L P T j n) a (otN σ a j)) (l + 1)) = ((X || anB (dgB (wT σ L P T j n) a (otN σ a j)) l) || (bitB (otN σ a j) l && gB (wT σ L P T j n) a l)) := by
      rw [Bool.or_assoc]
      rfl
    have hih := ih (l + 1)
    rw [en, hos] at hih
    rw [e_163_57]
    cases hx : (X || anB (dgB (wT σ L P T j n) a (otN σ a j)) l) with
    | true =>
      rw [hx] at h5 hih
      have h5 : v5 = 1 := h5
      simp +decide only [e_163_59, e_163_60, e_163_63, e_163_66, e_163_68, e_163_71, e_163_72, e_163_74, e_163_77, e_163_80, e_163_81, e_163_84, e_163_85, e_163_87, e_163_88, e_163_89, e_163_91, e_163_94, e_163_95, e_163_97, e_163_99, e_163_100, e_163_103, e_163_106, e_163_107, e_163_110, e_163_111, e_163_113, e_163_116, ↓reduceIte, Int32.reduceAdd, Int32.reduceSub, an_0, an_1, an_2, an_3, an_4, an_5, tc_0, tc_1, tc_2, tc_3, tc_4, tc_5, tc_6, tc_7, tc_8, tc_9, tc_10, tc_11, tc_12, tc_13, tc_14, tc_15, tc_16, tc_17, tc_18, tc_19, tc_20, tc_21, tc_22, tc_23, tc_24, tc_25, tc_26, tc_27, tc_28, tc_29, tc_30, tc_31, tc_32, lcl_none, lcl_int, lcl_ref, lcl_null, lcl_long, okR_nil, okR_int, okR_ref, okR_null, okR_long, pushR_some, pushR_none, va_rf_some, va_rf_none, true_and, and_true, true_implies, false_implies, not_true_eq_false, not_false_eq_true, implies_true, bI_eq0, bI_eq1, bI_01, Classical.not_not, or_em, false_and, and_false, hS.1, hS.2.1, hS.2.2.1, hS.2.2.2.1, kT_102, kT_103, kT_104, kT_105, kT_106, kT_107, kT_108, kT_109, kT_110, kT_111, kT_112, kT_113, kT_114, kT_115, kT_116, kT_117, kT_118, kT_119, kT_120, nT_103, nT_104, nT_105, nT_106, nT_107, nT_108, nT_109, nT_110, nT_111, nT_112, nT_113, nT_114, nT_115, nT_116, nT_117, nT_118, nT_119, nT_120, rT_102_1, rT_102_12, rT_102_13, rT_102_14, rT_102_18, rT_102_19, rT_102_20, rT_102_21, rT_102_22, rT_102_23, rT_102_25, rT_102_26, rT_102_27, rT_102_30, rT_102_31, rT_102_32, rT_102_33, rT_102_34, a1, h1, h5, nI_1]
      exact hih M 1 (by omega) (by simp [b01]) hS hI2
    | false =>
      rw [hx] at h5 hih
      have h5 : v5 = 0 := h5
      cases hba : bitB a l with
      | false =>
        rw [hba] at hbl hih
        simp +decide only [e_163_59, e_163_60, e_163_63, e_163_66, e_163_68, e_163_71, e_163_72, e_163_74, e_163_77, e_163_80, e_163_81, e_163_84, e_163_85, e_163_87, e_163_88, e_163_89, e_163_91, e_163_94, e_163_95, e_163_97, e_163_99, e_163_100, e_163_103, e_163_106, e_163_107, e_163_110, e_163_111, e_163_113, e_163_116, ↓reduceIte, Int32.reduceAdd, Int32.reduceSub, an_0, an_1, an_2, an_3, an_4, an_5, tc_0, tc_1, tc_2, tc_3, tc_4, tc_5, tc_6, tc_7, tc_8, tc_9, tc_10, tc_11, tc_12, tc_13, tc_14, tc_15, tc_16, tc_17, tc_18, tc_19, tc_20, tc_21, tc_22, tc_23, tc_24, tc_25, tc_26, tc_27, tc_28, tc_29, tc_30, tc_31, tc_32, lcl_none, lcl_int, lcl_ref, lcl_null, lcl_long, okR_nil, okR_int, okR_ref, okR_null, okR_long, pushR_some, pushR_none, va_rf_some, va_rf_none, true_and, and_true, true_implies, false_implies, not_true_eq_false, not_false_eq_true, implies_true, bI_eq0, bI_eq1, bI_01, Classical.not_not, or_em, false_and, and_false, hS.1, hS.2.1, hS.2.2.1, hS.2.2.2.1, kT_102, kT_103, kT_104, kT_105, kT_106, kT_107, kT_108, kT_109, kT_110, kT_111, kT_112, kT_113, kT_114, kT_115, kT_116, kT_117, kT_118, kT_119, kT_120, nT_103, nT_104, nT_105, nT_106, nT_107, nT_108, nT_109, nT_110, nT_111, nT_112, nT_113, nT_114, nT_115, nT_116, nT_117, nT_118, nT_119, nT_120, rT_102_1, rT_102_12, rT_102_13, rT_102_14, rT_102_18, rT_102_19, rT_102_20, rT_102_21, rT_102_22, rT_102_23, rT_102_25, rT_102_26, rT_102_27, rT_102_30, rT_102_31, rT_102_32, rT_102_33, rT_102_34, a1, h1, h5, c_isAliveM (d := 6) (by decide) hS, h10, hbl, nI_1]
        exact hih M 0 (by omega) (by simp [b01]) hS hI2
      | true =>
        rw [hba] at hbl hih
        by_cases hho : σ 5 (5 + l) = nI j
        · have hho' : (σ 5 (5 + l) = nI j) = True := eq_true hho
          simp +decide only [e_163_59, e_163_60, e_163_63, e_163_66, e_163_68, e_163_71, e_163_72, e_163_74, e_163_77, e_163_80, e_163_81, e_163_84, e_163_85, e_163_87, e_163_88, e_163_89, e_163_91, e_163_110, e_163_111, e_163_113, e_163_116, ↓reduceIte, Int32.reduceAdd, Int32.reduceSub, an_0, an_1, an_2, an_3, an_4, an_5, tc_0, tc_1, tc_2, tc_3, tc_4, tc_5, tc_6, tc_7, tc_8, tc_9, tc_10, tc_11, tc_12, tc_13, tc_14, tc_15, tc_16, tc_17, tc_18, tc_19, tc_20, tc_21, tc_22, tc_23, tc_24, tc_25, tc_26, tc_27, tc_28, tc_29, tc_30, tc_31, tc_32, lcl_none, lcl_int, lcl_ref, lcl_null, lcl_long, okR_nil, okR_int, okR_ref, okR_null, okR_long, pushR_some, pushR_none, va_rf_some, va_rf_none, true_and, and_true, true_implies, false_implies, not_true_eq_false, not_false_eq_true, implies_true, bI_eq0, bI_eq1, bI_01, Classical.not_not, or_em, false_and, and_false, hS.1, hS.2.1, hS.2.2.1, hS.2.2.2.1, kT_102, kT_103, kT_104, kT_105, kT_106, kT_107, kT_108, kT_109, kT_110, kT_111, kT_112, kT_113, kT_114, kT_115, kT_116, kT_117, kT_118, kT_119, kT_120, nT_103, nT_104, nT_105, nT_106, nT_107, nT_108, nT_109, nT_110, nT_111, nT_112, nT_113, nT_114, nT_115, nT_116, nT_117, nT_118, nT_119, nT_120, rT_102_1, rT_102_12, rT_102_13, rT_102_14, rT_102_18, rT_102_19, rT_102_20, rT_102_21, rT_102_22, rT_102_23, rT_102_25, rT_102_26, rT_102_27, rT_102_30, rT_102_31, rT_102_32, rT_102_33, rT_102_34, a1, h1, h5, c_isAliveM (d := 6) (by decide) hS, h10, hbl, e5, hcl, hin, hh, hho', nI_1]
          exact hih M 0 (by omega) (by simp [b01, hho]) hS hI2
        · have hho' : (σ 5 (5 + l) = nI j) = False := eq_false hho
          have hbit : a / 2 ^ l % 2 = 1 := of_decide_eq_true hba
          simp +decide only [e_163_59, e_163_60, e_163_63, e_163_66, e_163_68, e_163_71, e_163_72, e_163_74, e_163_77, e_163_80, e_163_81, e_163_84, e_163_85, e_163_87, e_163_88, e_163_89, e_163_91, e_163_94, e_163_95, e_163_97, e_163_99, e_163_100, ↓reduceIte, Int32.reduceAdd, Int32.reduceSub, an_0, an_1, an_2, an_3, an_4, an_5, tc_0, tc_1, tc_2, tc_3, tc_4, tc_5, tc_6, tc_7, tc_8, tc_9, tc_10, tc_11, tc_12, tc_13, tc_14, tc_15, tc_16, tc_17, tc_18, tc_19, tc_20, tc_21, tc_22, tc_23, tc_24, tc_25, tc_26, tc_27, tc_28, tc_29, tc_30, tc_31, tc_32, lcl_none, lcl_int, lcl_ref, lcl_null, lcl_long, okR_nil, okR_int, okR_ref, okR_null, okR_long, pushR_some, pushR_none, va_rf_some, va_rf_none, true_and, and_true, true_implies, false_implies, not_true_eq_false, not_false_eq_true, implies_true, bI_eq0, bI_eq1, bI_01, Classical.not_not, or_em, false_and, and_false, hS.1, hS.2.1, hS.2.2.1, hS.2.2.2.1, kT_102, kT_103, kT_104, kT_105, kT_106, kT_107, kT_108, kT_109, kT_110, kT_111, kT_112, kT_113, kT_114, kT_115, kT_116, kT_117, kT_118, kT_119, kT_120, nT_103, nT_104, nT_105, nT_106, nT_107, nT_108, nT_109, nT_110, nT_111, nT_112, nT_113, nT_114, nT_115, nT_116, nT_117, nT_118, nT_119, nT_120, rT_102_1, rT_102_12, rT_102_13, rT_102_14, rT_102_18, rT_102_19, rT_102_20, rT_102_21, rT_102_22, rT_102_23, rT_102_25, rT_102_26, rT_102_27, rT_102_30, rT_102_31, rT_102_32, rT_102_33, rT_102_34, a1, h1, h5, c_isAliveM (d := 6) (by decide) hS, h10, hbl, e5, hcl, hin, hh, hho']
          refine EvD_mono (c_gainByG (d := 6) (by decide) hS hM (TR_T hI hj hT) hne ha haL (show l < L by omega) hn) ?_
          rintro r M2 ⟨rfl, hS2, hI3⟩
          rw [seN_a hbit]
          show Ev 6 _ 103 _ (pushR (some (.int (nI (wT σ L P T j n (clN a l)) - nI (wT σ L P T j n a)))) []) M2 Q
          have hg := mg_gt (w30 _ (Nat.lt_of_le_of_lt (clN_le a l) haL)) (w30 _ haL)
          cases hgb : gB (wT σ L P T j n) a l with
          | false =>
            rw [hgb] at hih
            have hle : (nI (wT σ L P T j n (clN a l)) - nI (wT σ L P T j n a) ≤ 0) = True := by rw [hg]; exact eq_true (Nat.not_lt.mp (of_decide_eq_false hgb))
            simp +decide only [e_163_103, e_163_106, e_163_107, e_163_110, e_163_111, e_163_113, e_163_116, ↓reduceIte, Int32.reduceAdd, Int32.reduceSub, an_0, an_1, an_2, an_3, an_4, an_5, tc_0, tc_1, tc_2, tc_3, tc_4, tc_5, tc_6, tc_7, tc_8, tc_9, tc_10, tc_11, tc_12, tc_13, tc_14, tc_15, tc_16, tc_17, tc_18, tc_19, tc_20, tc_21, tc_22, tc_23, tc_24, tc_25, tc_26, tc_27, tc_28, tc_29, tc_30, tc_31, tc_32, lcl_none, lcl_int, lcl_ref, lcl_null, lcl_long, okR_nil, okR_int, okR_ref, okR_null, okR_long, pushR_some, pushR_none, va_rf_some, va_rf_none, true_and, and_true, true_implies, false_implies, not_true_eq_false, not_false_eq_true, implies_true, bI_eq0, bI_eq1, bI_01, Classical.not_not, or_em, false_and, and_false, hle, nI_1]
            exact hih M2 0 (by omega) (by simp [b01]) hS2 (hI3.trans hI2)
          | true =>
            rw [hgb] at hih
            have hle : (nI (wT σ L P T j n (clN a l)) - nI (wT σ L P T j n a) ≤ 0) = False := by rw [hg]; exact eq_false (Nat.not_le.mpr (of_decide_eq_true hgb))
            simp +decide only [e_163_103, e_163_106, e_163_107, e_163_110, e_163_111, e_163_113, e_163_116, ↓reduceIte, Int32.reduceAdd, Int32.reduceSub, an_0, an_1, an_2, an_3, an_4, an_5, tc_0, tc_1, tc_2, tc_3, tc_4, tc_5, tc_6, tc_7, tc_8, tc_9, tc_10, tc_11, tc_12, tc_13, tc_14, tc_15, tc_16, tc_17, tc_18, tc_19, tc_20, tc_21, tc_22, tc_23, tc_24, tc_25, tc_26, tc_27, tc_28, tc_29, tc_30, tc_31, tc_32, lcl_none, lcl_int, lcl_ref, lcl_null, lcl_long, okR_nil, okR_int, okR_ref, okR_null, okR_long, pushR_some, pushR_none, va_rf_some, va_rf_none, true_and, and_true, true_implies, false_implies, not_true_eq_false, not_false_eq_true, implies_true, bI_eq0, bI_eq1, bI_01, Classical.not_not, or_em, false_and, and_false, hle, nI_1]
            exact hih M2 1 (by omega) (by simp [b01, hho]) hS2 (hI3.trans hI2)
theorem L_tS {L P a n T : Nat} {b : Bool} {σ : Sg} {old best : Int32} {M0 : ab_M} {Q : ab_Q} (hM0 : MR M0 L P (vN σ) (oqN σ) T (σ 5)) (hI : IV L P σ) (ha : σ 5 10 = nI a) (haL : a < 2 ^ L) (hn : n ≤ 20) (hT : T ≤ 10) (hQ : ∀ M1 x6 x7, Sh b M1 → mI M1 = mI M0 → Ev 6 163 125 [some (.ref 102), some (.int (nI n)), some (.int old), some (.int best), some (.int (nI T)), some (.int (b01 (anB (sgB σ L P n a T) P))), x6, x7] [] M1 Q) : ∀ m j M x7, j + m = P → Sh b M → mI M = mI M0 → Ev 6 163 45 [some (.ref 102), some (.int (nI n)), some (.int old), some (.int best), some (.int (nI T)), some (.int (b01 (anB (sgB σ L P n a T) j))), some (.int (nI j)), x7] [] M Q := by
  obtain ⟨hL, hP, iL, iP⟩ := IV_n hI
  intro m
  induction m with
  | zero =>
    intro j M x7 hj hS hI2
    have a2 : mI M 102 17 = nI P := by rw [hI2]; exact hM0.2.1
    have h1 : (nI P ≤ nI j) = True := by rw [nI_leE (by omega) (by omega)]; exact eq_true (by omega)
    have hq := fun x6 x7 => hQ M x6 x7 hS hI2
    rw [e_163_45]
    simp +decide only [e_163_47, e_163_48, e_163_51, ↓reduceIte, Int32.reduceAdd, Int32.reduceSub, an_0, an_1, an_2, an_3, an_4, an_5, tc_0, tc_1, tc_2, tc_3, tc_4, tc_5, tc_6, tc_7, tc_8, tc_9, tc_10, tc_11, tc_12, tc_13, tc_14, tc_15, tc_16, tc_17, tc_18, tc_19, tc_20, tc_21, tc_22, tc_23, tc_24, tc_25, tc_26, tc_27, tc_28, tc_29, tc_30, tc_31, tc_32, lcl_none, lcl_int, lcl_ref, lcl_null, lcl_long, okR_nil, okR_int, okR_ref, okR_null, okR_long, pushR_some, pushR_none, va_rf_some, va_rf_none, true_and, and_true, true_implies, false_implies, not_true_eq_false, not_false_eq_true, implies_true, bI_eq0, bI_eq1, bI_01, Classical.not_not, or_em, false_and, and_false, hS.1, hS.2.1, hS.2.2.1, hS.2.2.2.1, kT_102, kT_103, kT_104, kT_105, kT_106, kT_107, kT_108, kT_109, kT_110, kT_111, kT_112, kT_113, kT_114, kT_115, kT_116, kT_117, kT_118, kT_119, kT_120, nT_103, nT_104, nT_105, nT_106, nT_107, nT_108, nT_109, nT_110, nT_111, nT_112, nT_113, nT_114, nT_115, nT_116, nT_117, nT_118, nT_119, nT_120, rT_102_1, rT_102_12, rT_102_13, rT_102_14, rT_102_18, rT_102_19, rT_102_20, rT_102_21, rT_102_22, rT_102_23, rT_102_25, rT_102_26, rT_102_27, rT_102_30, rT_102_31, rT_102_32, rT_102_33, rT_102_34, a2, h1]
    rw [show anB (sgB σ L P n a T) j = anB (sgB σ L P n a T) P by rw [show j = P by omega]]
    exact hq _ _
  | succ m ih =>
    intro j M x7 hj hS hI2
    have a2 : mI M 102 17 = nI P := by rw [hI2]; exact hM0.2.1
    have h1 : (nI P ≤ nI j) = False := by rw [nI_leE (by omega) (by omega)]; exact eq_false (by omega)
    rw [e_163_45]
    simp +decide only [e_163_47, e_163_48, e_163_51, e_163_54, e_163_55, ↓reduceIte, Int32.reduceAdd, Int32.reduceSub, an_0, an_1, an_2, an_3, an_4, an_5, tc_0, tc_1, tc_2, tc_3, tc_4, tc_5, tc_6, tc_7, tc_8, tc_9, tc_10, tc_11, tc_12, tc_13, tc_14, tc_15, tc_16, tc_17, tc_18, tc_19, tc_20, tc_21, tc_22, tc_23, tc_24, tc_25, tc_26, tc_27, tc_28, tc_29, tc_30, tc_31, tc_32, lcl_none, lcl_int, lcl_ref, lcl_null, lcl_long, okR_nil, okR_int, okR_ref, okR_null, okR_long, pushR_some, pushR_none, va_rf_some, va_rf_none, true_and, and_true, true_implies, false_implies, not_true_eq_false, not_false_eq_true, implies_true, bI_eq0, bI_eq1, bI_01, Classical.not_not, or_em, false_and, and_false, hS.1, hS.2.1, hS.2.2.1, hS.2.2.2.1, kT_102, kT_103, kT_104, kT_105, kT_106, kT_107, kT_108, kT_109, kT_110, kT_111, kT_112, kT_113, kT_114, kT_115, kT_116, kT_117, kT_118, kT_119, kT_120, nT_103, nT_104, nT_105, nT_106, nT_107, nT_108, nT_109, nT_110, nT_111, nT_112, nT_113, nT_114, nT_115, nT_116, nT_117, nT_118, nT_119, nT_120, rT_102_1, rT_102_12, rT_102_13, rT_102_14, rT_102_18, rT_102_19, rT_102_20, rT_102_21, rT_102_22, rT_102_23, rT_102_25, rT_102_26, rT_102_27, rT_102_30, rT_102_31, rT_102_32, rT_102_33, rT_102_34, a2, h1]
    refine L_tI (M0 := M) (X := anB (sgB σ L P n a T) j) (L := L) (P := P) (a := a) (n := n) (j := j) (by unfold MR at hM0 ⊢; rw [hI2]; exact hM0) hI ha haL (by omega) hn hT (fun M1 hS1 hI1 => ?_) L 0 M _ (by omega) (by simp [anB]) hS rfl
    simp +decide only [e_163_119, e_163_122, ↓reduceIte, Int32.reduceAdd, Int32.reduceSub, an_0, an_1, an_2, an_3, an_4, an_5, tc_0, tc_1, tc_2, tc_3, tc_4, tc_5, tc_6, tc_7, tc_8, tc_9, tc_10, tc_11, tc_12, tc_13, tc_14, tc_15, tc_16, tc_17, tc_18, tc_19, tc_20, tc_21, tc_22, tc_23, tc_24, tc_25, tc_26, tc_27, tc_28, tc_29, tc_30, tc_31, tc_32, lcl_none, lcl_int, lcl_ref, lcl_null, lcl_long, okR_nil, okR_int, okR_ref, okR_null, okR_long, pushR_some, pushR_none, va_rf_some, va_rf_none, true_and, and_true, true_implies, false_implies, not_true_eq_false, not_false_eq_true, implies_true, bI_eq0, bI_eq1, bI_01, Classical.not_not, or_em, false_and, and_false, nI_1]
    exact ih (j + 1) M1 _ (by omega) hS1 (hI1.trans hI2)
def FT (M0 M : ab_M) : Prop := (∀ a, a ≠ 107 → mI M a = mI M0 a) ∧ ∀ k, k ≠ 1 → mI M 107 k = mI M0 107 k
theorem FT_MR {L P V T : Nat} {q : Nat → Nat} {S : Nat → Int32} {M0 M : ab_M} {T0 : Nat} (h : MR M0 L P V q T0 S) (hf : FT M0 M) (hT : mI M 107 1 = nI T) : MR M L P V q T S := by
  obtain ⟨q1, q2, q3, q4, q5, q6, q7⟩ := h
  refine ⟨?_, ?_, ?_, hT, fun k hk => ?_, fun k hk => ?_, q7⟩
  · rw [hf.1 _ (by decide)]; exact q1
  · rw [hf.1 _ (by decide)]; exact q2
  · rw [hf.2 _ (by decide)]; exact q3
  · rw [hf.1 _ (by decide)]; exact q5 k hk
  · rw [hf.1 _ (by decide)]; exact q6 k hk
theorem L_tT {L P a n T0 : Nat} {b : Bool} {σ : Sg} {old : Int32} {M0 : ab_M} {Q : ab_Q} (hM0 : MR M0 L P (vN σ) (oqN σ) T0 (σ 5)) (hI : IV L P σ) (ha : σ 5 10 = nI a) (haL : a < 2 ^ L) (hn : n ≤ 20) (hQ : ∀ M1 x5 x6 x7, Sh b M1 → FT M0 M1 → Ev 6 163 143 [some (.ref 102), some (.int (nI n)), some (.int old), some (.int (ltT (fun T => anB (sgB σ L P n a T) P) 11)), some (.int (-1)), x5, x6, x7] [] M1 Q) : ∀ T M v x5 x6 x7 m, T ≤ 11 → m + T = 11 → v = nI T - 1 → Sh b M → FT M0 M → Ev 6 163 26 [some (.ref 102), some (.int (nI n)), some (.int old), some (.int (ltT (fun T => anB (sgB σ L P n a T) P) m)), some (.int v), x5, x6, x7] [] M Q := by
  intro T
  induction T with
  | zero =>
    intro M v x5 x6 x7 m hT hm hv hS hf
    have hv : v = -1 := by rw [hv]; decide
    rw [e_163_26]
    simp +decide only [e_163_28, ↓reduceIte, Int32.reduceAdd, Int32.reduceSub, an_0, an_1, an_2, an_3, an_4, an_5, tc_0, tc_1, tc_2, tc_3, tc_4, tc_5, tc_6, tc_7, tc_8, tc_9, tc_10, tc_11, tc_12, tc_13, tc_14, tc_15, tc_16, tc_17, tc_18, tc_19, tc_20, tc_21, tc_22, tc_23, tc_24, tc_25, tc_26, tc_27, tc_28, tc_29, tc_30, tc_31, tc_32, lcl_none, lcl_int, lcl_ref, lcl_null, lcl_long, okR_nil, okR_int, okR_ref, okR_null, okR_long, pushR_some, pushR_none, va_rf_some, va_rf_none, true_and, and_true, true_implies, false_implies, not_true_eq_false, not_false_eq_true, implies_true, bI_eq0, bI_eq1, bI_01, Classical.not_not, or_em, false_and, and_false, hv]
    rw [show m = 11 by omega]
    exact hQ M _ _ _ hS hf
  | succ T ih =>
    intro M v x5 x6 x7 m hT hm hv hS hf
    have hv : v = nI T := by rw [hv]; exact nI_pred T
    have h1 : (nI T < 0) = False := eq_false (nI_pos (by omega))
    have h1' : (0 ≤ nI T) = True := eq_true (nI_pos' (by omega))
    rw [e_163_26, hv]
    simp +decide only [e_163_28, e_163_31, e_163_32, e_163_35, e_163_36, e_163_38, e_163_39, e_163_40, e_163_42, e_163_43, ↓reduceIte, Int32.reduceAdd, Int32.reduceSub, an_0, an_1, an_2, an_3, an_4, an_5, tc_0, tc_1, tc_2, tc_3, tc_4, tc_5, tc_6, tc_7, tc_8, tc_9, tc_10, tc_11, tc_12, tc_13, tc_14, tc_15, tc_16, tc_17, tc_18, tc_19, tc_20, tc_21, tc_22, tc_23, tc_24, tc_25, tc_26, tc_27, tc_28, tc_29, tc_30, tc_31, tc_32, lcl_none, lcl_int, lcl_ref, lcl_null, lcl_long, okR_nil, okR_int, okR_ref, okR_null, okR_long, pushR_some, pushR_none, va_rf_some, va_rf_none, true_and, and_true, true_implies, false_implies, not_true_eq_false, not_false_eq_true, implies_true, bI_eq0, bI_eq1, bI_01, Classical.not_not, or_em, false_and, and_false, hS.1, hS.2.1, hS.2.2.1, hS.2.2.2.1, kT_102, kT_103, kT_104, kT_105, kT_106, kT_107, kT_108, kT_109, kT_110, kT_111, kT_112, kT_113, kT_114, kT_115, kT_116, kT_117, kT_118, kT_119, kT_120, nT_103, nT_104, nT_105, nT_106, nT_107, nT_108, nT_109, nT_110, nT_111, nT_112, nT_113, nT_114, nT_115, nT_116, nT_117, nT_118, nT_119, nT_120, rT_102_1, rT_102_12, rT_102_13, rT_102_14, rT_102_18, rT_102_19, rT_102_20, rT_102_21, rT_102_22, rT_102_23, rT_102_25, rT_102_26, rT_102_27, rT_102_30, rT_102_31, rT_102_32, rT_102_33, rT_102_34, h1, h1']
    have hS1 : Sh b (wI M 107 1 (nI T)) := hS
    have hf1 : FT M0 (wI M 107 1 (nI T)) := ⟨fun c hc => by rw [mI_wI_ne hc]; exact hf.1 c hc, fun k hk => by rw [mI_wI, if_neg (fun z => hk z.2)]; exact hf.2 k hk⟩
    have hMR1 : MR (wI M 107 1 (nI T)) L P (vN σ) (oqN σ) T (σ 5) := FT_MR hM0 hf1 (by rw [mI_wI, if_pos ⟨rfl, rfl⟩])
    generalize wI M 107 1 (nI T) = M1 at hS1 hf1 hMR1 ⊢
    refine L_tS (M0 := M1) hMR1 hI ha haL hn (show T ≤ 10 by omega) (fun M2 x6 x7 hS2 hI2 => ?_) P 0 M1 _ (by omega) hS1 rfl
    have er : ltT (fun T => anB (sgB σ L P n a T) P) (m + 1) = if anB (sgB σ L P n a (10 - m)) P = true then ltT (fun T => anB (sgB σ L P n a T) P) m else nI (10 - m) := rfl
    rw [show 10 - m = T by omega] at er
    have hf2 : FT M0 M2 := by unfold FT at hf1 ⊢; rw [hI2]; exact hf1
    have ev : nI T + -1 = nI T - 1 := (Int32.sub_eq_add_neg (nI T) 1).symm
    cases hg : anB (sgB σ L P n a T) P with
    | true =>
      rw [hg, if_pos rfl] at er
      have hih := fun x5 x6 x7 => ih M2 (nI T - 1) x5 x6 x7 (m + 1) (by omega) (by omega) rfl hS2 hf2
      rw [er] at hih
      simp +decide only [e_163_125, e_163_127, e_163_130, e_163_131, e_163_134, e_163_136, e_163_137, e_163_140, ↓reduceIte, Int32.reduceAdd, Int32.reduceSub, an_0, an_1, an_2, an_3, an_4, an_5, tc_0, tc_1, tc_2, tc_3, tc_4, tc_5, tc_6, tc_7, tc_8, tc_9, tc_10, tc_11, tc_12, tc_13, tc_14, tc_15, tc_16, tc_17, tc_18, tc_19, tc_20, tc_21, tc_22, tc_23, tc_24, tc_25, tc_26, tc_27, tc_28, tc_29, tc_30, tc_31, tc_32, lcl_none, lcl_int, lcl_ref, lcl_null, lcl_long, okR_nil, okR_int, okR_ref, okR_null, okR_long, pushR_some, pushR_none, va_rf_some, va_rf_none, true_and, and_true, true_implies, false_implies, not_true_eq_false, not_false_eq_true, implies_true, bI_eq0, bI_eq1, bI_01, Classical.not_not, or_em, false_and, and_false, b01, cond_true, ev]
      exact hih _ _ _
    | false =>
      rw [hg, if_neg (by decide)] at er
      have hih := fun x5 x6 x7 => ih M2 (nI T - 1) x5 x6 x7 (m + 1) (by omega) (by omega) rfl hS2 hf2
      rw [er] at hih
      simp +decide only [e_163_125, e_163_127, e_163_130, e_163_131, e_163_134, e_163_136, e_163_137, e_163_140, ↓reduceIte, Int32.reduceAdd, Int32.reduceSub, an_0, an_1, an_2, an_3, an_4, an_5, tc_0, tc_1, tc_2, tc_3, tc_4, tc_5, tc_6, tc_7, tc_8, tc_9, tc_10, tc_11, tc_12, tc_13, tc_14, tc_15, tc_16, tc_17, tc_18, tc_19, tc_20, tc_21, tc_22, tc_23, tc_24, tc_25, tc_26, tc_27, tc_28, tc_29, tc_30, tc_31, tc_32, lcl_none, lcl_int, lcl_ref, lcl_null, lcl_long, okR_nil, okR_int, okR_ref, okR_null, okR_long, pushR_some, pushR_none, va_rf_some, va_rf_none, true_and, and_true, true_implies, false_implies, not_true_eq_false, not_false_eq_true, implies_true, bI_eq0, bI_eq1, bI_01, Classical.not_not, or_em, false_and, and_false, b01, cond_false, ev]
      exact hih _ _ _
theorem op_terms (n : Int32) (M : ab_M) (hM : Rel M) : lwStep Rel 89 163 [n] M := by
  obtain ⟨b, σ, L, P, hS, hC, hMo, hI⟩ := hM
  obtain ⟨a, ha32, haL, ha⟩ := IV_al hI
  by_cases hn : 1 ≤ n ∧ n ≤ 20
  · have hnx : (1 ≤ n ∧ n ≤ 20) = True := eq_true hn
    obtain ⟨k, hk, rfl⟩ := of_20 ⟨Int32.le_trans (by decide) hn.1, hn.2⟩
    refine RO hS hC hMo hI (ltT (fun T => anB (sgB σ L P k a T) P) 11) ?_ (fun M1 hS1 hM1 => ?_)
    · show EvD 20 89 [.ref 0, .int (nI k)] M _
      rw [b_89 (by decide)]
      simp +decide only [e_89_0, e_89_1, e_89_4, e_89_7, e_89_9, e_89_10, e_89_11, ↓reduceIte, Int32.reduceAdd, Int32.reduceSub, an_0, an_1, an_2, an_3, an_4, an_5, tc_0, tc_1, tc_2, tc_3, tc_4, tc_5, tc_6, tc_7, tc_8, tc_9, tc_10, tc_11, tc_12, tc_13, tc_14, tc_15, tc_16, tc_17, tc_18, tc_19, tc_20, tc_21, tc_22, tc_23, tc_24, tc_25, tc_26, tc_27, tc_28, tc_29, tc_30, tc_31, tc_32, lcl_none, lcl_int, lcl_ref, lcl_null, lcl_long, okR_nil, okR_int, okR_ref, okR_null, okR_long, pushR_some, pushR_none, va_rf_some, va_rf_none, true_and, and_true, true_implies, false_implies, not_true_eq_false, not_false_eq_true, implies_true, bI_eq0, bI_eq1, bI_01, Classical.not_not, or_em, false_and, and_false, c_mayBeTried (d := 5) (by decide), hnx]
      exact L_teC hC hI ha haL hk 11 0 M (by omega) (fun M1 hS1 hf1 => ⟨rfl, hS1, fun a ha => hf1 a (by omega)⟩) hS (fun _ _ => rfl)
    · show EvD 20 163 [.ref 102, .int (nI k)] M1 _
      rw [b_163 (by decide)]
      simp +decide only [e_163_0, e_163_1, e_163_2, e_163_4, e_163_7, e_163_10, e_163_12, e_163_13, e_163_14, e_163_17, e_163_18, e_163_19, e_163_20, e_163_21, e_163_22, e_163_24, ↓reduceIte, Int32.reduceAdd, Int32.reduceSub, an_0, an_1, an_2, an_3, an_4, an_5, tc_0, tc_1, tc_2, tc_3, tc_4, tc_5, tc_6, tc_7, tc_8, tc_9, tc_10, tc_11, tc_12, tc_13, tc_14, tc_15, tc_16, tc_17, tc_18, tc_19, tc_20, tc_21, tc_22, tc_23, tc_24, tc_25, tc_26, tc_27, tc_28, tc_29, tc_30, tc_31, tc_32, lcl_none, lcl_int, lcl_ref, lcl_null, lcl_long, okR_nil, okR_int, okR_ref, okR_null, okR_long, pushR_some, pushR_none, va_rf_some, va_rf_none, true_and, and_true, true_implies, false_implies, not_true_eq_false, not_false_eq_true, implies_true, bI_eq0, bI_eq1, bI_01, Classical.not_not, or_em, false_and, and_false, hS1.1, hS1.2.1, hS1.2.2.1, kT_102, kT_103, kT_104, kT_105, kT_106, kT_107, kT_108, kT_109, kT_110, kT_111, kT_112, kT_113, kT_114, kT_115, kT_116, kT_117, kT_118, kT_119, kT_120, nT_103, nT_104, nT_105, nT_106, nT_107, nT_108, nT_109, nT_110, nT_111, nT_112, nT_113, nT_114, nT_115, nT_116, nT_117, nT_118, nT_119, nT_120, rT_102_1, rT_102_12, rT_102_13, rT_102_14, rT_102_18, rT_102_19, rT_102_20, rT_102_21, rT_102_22, rT_102_23, rT_102_25, rT_102_26, rT_102_27, rT_102_30, rT_102_31, rT_102_32, rT_102_33, rT_102_34, c_in (d := 6) (by decide), hnx]
      refine L_tT (M0 := M1) (MR_of hI hM1) hI ha haL hk (fun M2 x5 x6 x7 hS2 hf2 => ?_) 11 M1 10 none none none 0 (by omega) (by omega) (by decide) hS1 ⟨fun _ _ => rfl, fun _ _ => rfl⟩
      simp +decide only [e_163_143, e_163_144, e_163_147, e_163_148, e_163_149, e_163_150, e_163_151, ↓reduceIte, Int32.reduceAdd, Int32.reduceSub, an_0, an_1, an_2, an_3, an_4, an_5, tc_0, tc_1, tc_2, tc_3, tc_4, tc_5, tc_6, tc_7, tc_8, tc_9, tc_10, tc_11, tc_12, tc_13, tc_14, tc_15, tc_16, tc_17, tc_18, tc_19, tc_20, tc_21, tc_22, tc_23, tc_24, tc_25, tc_26, tc_27, tc_28, tc_29, tc_30, tc_31, tc_32, lcl_none, lcl_int, lcl_ref, lcl_null, lcl_long, okR_nil, okR_int, okR_ref, okR_null, okR_long, pushR_some, pushR_none, va_rf_some, va_rf_none, true_and, and_true, true_implies, false_implies, not_true_eq_false, not_false_eq_true, implies_true, bI_eq0, bI_eq1, bI_01, Classical.not_not, or_em, false_and, and_false, hS2.1, hS2.2.1, hS2.2.2.1, kT_102, kT_103, kT_104, kT_105, kT_106, kT_107, kT_108, kT_109, kT_110, kT_111, kT_112, kT_113, kT_114, kT_115, kT_116, kT_117, kT_118, kT_119, kT_120, nT_103, nT_104, nT_105, nT_106, nT_107, nT_108, nT_109, nT_110, nT_111, nT_112, nT_113, nT_114, nT_115, nT_116, nT_117, nT_118, nT_119, nT_120, rT_102_1, rT_102_12, rT_102_13, rT_102_14, rT_102_18, rT_102_19, rT_102_20, rT_102_21, rT_102_22, rT_102_23, rT_102_25, rT_102_26, rT_102_27, rT_102_30, rT_102_31, rT_102_32, rT_102_33, rT_102_34]
      refine ⟨hS2, fun c hc => ?_⟩
      by_cases e : c = 107
      · funext i
        rw [e, mI_wI]
        by_cases ei : i = 1
        · rw [if_pos ⟨rfl, ei⟩, ei]
        · rw [if_neg (fun z => ei z.2)]
          exact hf2.2 i ei
      · rw [mI_wI_ne e]
        exact hf2.1 c e
  · have hnx : (1 ≤ n ∧ n ≤ 20) = False := eq_false hn
    refine RO hS hC hMo hI (-2000000002) ?_ (fun M1 hS1 hM1 => ?_)
    · show EvD 20 89 [.ref 0, .int n] M _
      rw [b_89 (by decide)]
      simp +decide only [e_89_0, e_89_1, e_89_4, e_89_7, e_89_9, e_89_10, e_89_11, ↓reduceIte, Int32.reduceAdd, Int32.reduceSub, an_0, an_1, an_2, an_3, an_4, an_5, tc_0, tc_1, tc_2, tc_3, tc_4, tc_5, tc_6, tc_7, tc_8, tc_9, tc_10, tc_11, tc_12, tc_13, tc_14, tc_15, tc_16, tc_17, tc_18, tc_19, tc_20, tc_21, tc_22, tc_23, tc_24, tc_25, tc_26, tc_27, tc_28, tc_29, tc_30, tc_31, tc_32, lcl_none, lcl_int, lcl_ref, lcl_null, lcl_long, okR_nil, okR_int, okR_ref, okR_null, okR_long, pushR_some, pushR_none, va_rf_some, va_rf_none, true_and, and_true, true_implies, false_implies, not_true_eq_false, not_false_eq_true, implies_true, bI_eq0, bI_eq1, bI_01, Classical.not_not, or_em, false_and, and_false, c_mayBeTried (d := 5) (by decide), hnx]
      exact hS
    · show EvD 20 163 [.ref 102, .int n] M1 _
      rw [b_163 (by decide)]
      simp +decide only [e_163_0, e_163_1, e_163_2, e_163_4, e_163_7, e_163_10, e_163_12, e_163_13, e_163_14, e_163_17, e_163_18, e_163_19, e_163_20, e_163_21, e_163_22, e_163_24, ↓reduceIte, Int32.reduceAdd, Int32.reduceSub, an_0, an_1, an_2, an_3, an_4, an_5, tc_0, tc_1, tc_2, tc_3, tc_4, tc_5, tc_6, tc_7, tc_8, tc_9, tc_10, tc_11, tc_12, tc_13, tc_14, tc_15, tc_16, tc_17, tc_18, tc_19, tc_20, tc_21, tc_22, tc_23, tc_24, tc_25, tc_26, tc_27, tc_28, tc_29, tc_30, tc_31, tc_32, lcl_none, lcl_int, lcl_ref, lcl_null, lcl_long, okR_nil, okR_int, okR_ref, okR_null, okR_long, pushR_some, pushR_none, va_rf_some, va_rf_none, true_and, and_true, true_implies, false_implies, not_true_eq_false, not_false_eq_true, implies_true, bI_eq0, bI_eq1, bI_01, Classical.not_not, or_em, false_and, and_false, c_in (d := 6) (by decide), hnx]
      exact hS1
