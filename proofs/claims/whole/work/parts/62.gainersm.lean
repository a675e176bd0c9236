/-! gainers, the model -/
def b01 (x : Bool) : Int32 := cond x 1 0
theorem ot_S {σ : Sg} {a j l : Nat} (ha : a < 32) (hl : l < 5) : bitB (otN σ a j) l = (bitB a l && !decide (σ 5 (5 + l) = nI j)) := by
  unfold otN
  rw [ot_bit a ha _ (hsN_lt _ _) l hl, hs_bit hl]
theorem L_gaI {L P a n j : Nat} {b : Bool} {σ : Sg} {s : Int32} {M0 : ab_M} {Q : ab_Q} (hM0 : RM M0 σ) (hI : IV L P σ) (ha : σ 5 10 = nI a) (haL : a < 2 ^ L) (hj : j < P) (hn : n ≤ 20) (hQ : ∀ M1, Sh b M1 → mI M1 = mI M0 → Ev 6 162 97 [some (.ref 102), some (.int (nI n)), some (.int s), some (.int (nI j)), some (.int (b01 (anB (bitB (otN σ a j)) L))), some (.int (b01 (alB (bitB (otN σ a j)) (gB (wC σ L P j n) a) L))), some (.int (nI L))] [] M1 Q) : ∀ m l M v4 v5, l + m = L → v4 = b01 (anB (bitB (otN σ a j)) l) → v5 = b01 (alB (bitB (otN σ a j)) (gB (wC σ L P j n) a) l) → Sh b M → mI M = mI M0 → Ev 6 162 34 [some (.ref 102), some (.int (nI n)), some (.int s), some (.int (nI j)), some (.int v4), some (.int v5), some (.int (nI l))] [] M Q := by
  obtain ⟨hL, hP, iL, iP⟩ := IV_n hI
  have h32 := pow_L hL
  have w30 := wC_30 hI hj hn
  intro m
  induction m with
  | zero =>
    intro l M v4 v5 hl h4 h5 hS hI2
    have hM : RM M σ := RM_scr hM0 (fun a _ _ => by rw [hI2])
    have a1 : mI M 102 16 = nI L := hM.1.1.1.trans iL
    have h1 : (nI L ≤ nI l) = True := by rw [nI_leE (by omega) (by omega)]; exact eq_true (by omega)
    rw [e_162_34]
    simp +decide only [e_162_36, e_162_37, e_162_40, ↓reduceIte, Int32.reduceAdd, Int32.reduceSub, an_0, an_1, an_2, an_3, an_4, an_5, tc_0, tc_1, tc_2, tc_3, tc_4, tc_5, tc_6, tc_7, tc_8, tc_9, tc_10, tc_11, tc_12, tc_13, tc_14, tc_15, tc_16, tc_17, tc_18, tc_19, tc_20, tc_21, tc_22, tc_23, tc_24, tc_25, tc_26, tc_27, tc_28, tc_29, tc_30, tc_31, tc_32, lcl_none, lcl_int, lcl_ref, lcl_null, lcl_long, okR_nil, okR_int, okR_ref, okR_null, okR_long, pushR_some, pushR_none, va_rf_some, va_rf_none, true_and, and_true, true_implies, false_implies, not_true_eq_false, not_false_eq_true, implies_true, bI_eq0, bI_eq1, bI_01, Classical.not_not, or_em, false_and, and_false, hS.1, hS.2.1, hS.2.2.1, hS.2.2.2.1, kT_102, kT_103, kT_104, kT_105, kT_106, kT_107, kT_108, kT_109, kT_110, kT_111, kT_112, kT_113, kT_114, kT_115, kT_116, kT_117, kT_118, kT_119, kT_120, nT_103, nT_104, nT_105, nT_106, nT_107, nT_108, nT_109, nT_110, nT_111, nT_112, nT_113, nT_114, nT_115, nT_116, nT_117, nT_118, nT_119, nT_120, rT_102_1, rT_102_12, rT_102_13, rT_102_14, rT_102_18, rT_102_19, rT_102_20, rT_102_21, rT_102_22, rT_102_23, rT_102_25, rT_102_26, rT_102_27, rT_102_30, rT_102_31, rT_102_32, rT_102_33, rT_102_34, a1, h1]
    rw [h4, h5, show l = L by omega]
    exact hQ M hS hI2
  | succ m ih =>
    intro l M v4 v5 hl h4 h5 hS hI2
    have hM : RM M σ := RM_scr hM0 (fun a _ _ => by rw [hI2])
    have a1 : mI M 102 16 = nI L := hM.1.1.1.trans iL
    have h10 : mI M 111 10 = nI a := (hM.2.2.1 10 (by decide)).trans ha
    have h1 : (nI L ≤ nI l) = False := by rw [nI_leE (by omega) (by omega)]; exact eq_false (by omega)
    have hbl := hasB_b (x := a) (l := l) (by omega) (by omega)
    have hos := ot_S (σ := σ) (a := a) (j := j) (l := l) (by omega) (by omega)
    have e5 : (5 : Int32) + nI l = nI (5 + l) := nI_add 5 l
    have hcl : (nI (5 + l)).toNatClampNeg = 5 + l := nI_clamp (by omega)
    have hin : inX (nI (5 + l)) 14 = True := eq_true (inX_nI (by decide) (by omega))
    have hh : mI M 111 (5 + l) = σ 5 (5 + l) := hM.2.2.1 (5 + l) (by omega)
    have en : anB (bitB (otN σ a j)) (l + 1) = (anB (bitB (otN σ a j)) l || bitB (otN σ a j) l) := rfl
    have ea : alB (bitB (otN σ a j)) (gB (wC σ L P j n) a) (l + 1) = if bitB (otN σ a j) l = true then alB (bitB (otN σ a j)) (gB (wC σ L P j n) a) l && gB (wC σ L P j n) a l else alB (bitB (otN σ a j)) (gB (wC σ L P j n) a) l := rfl
    have hih := ih (l + 1)
    rw [en, ea, hos] at hih
    rw [e_162_34]
    cases hba : bitB a l with
    | false =>
      rw [hba] at hbl hih
      simp +decide only [e_162_36, e_162_37, e_162_40, e_162_43, e_162_44, e_162_46, e_162_49, e_162_91, e_162_94, ↓reduceIte, Int32.reduceAdd, Int32.reduceSub, an_0, an_1, an_2, an_3, an_4, an_5, tc_0, tc_1, tc_2, tc_3, tc_4, tc_5, tc_6, tc_7, tc_8, tc_9, tc_10, tc_11, tc_12, tc_13, tc_14, tc_15, tc_16, tc_17, tc_18, tc_19, tc_20, tc_21, tc_22, tc_23, tc_24, tc_25, tc_26, tc_27, tc_28, tc_29, tc_30, tc_31, tc_32, lcl_none, lcl_int, lcl_ref, lcl_null, lcl_long, okR_nil, okR_int, okR_ref, okR_null, okR_long, pushR_some, pushR_none, va_rf_some, va_rf_none, true_and, and_true, true_implies, false_implies, not_true_eq_false, not_false_eq_true, implies_true, bI_eq0, bI_eq1, bI_01, Classical.not_not, or_em, false_and, and_false, hS.1, hS.2.1, hS.2.2.1, hS.2.2.2.1, kT_102, kT_103, kT_104, kT_105, kT_106, kT_107, kT_108, kT_109, kT_110, kT_111, kT_112, kT_113, kT_114, kT_115, kT_116, kT_117, kT_118, kT_119, kT_120, nT_103, nT_104, nT_105, nT_106, nT_107, nT_108, nT_109, nT_110, nT_111, nT_112, nT_113, nT_114, nT_115, nT_116, nT_117, nT_118, nT_119, nT_120, rT_102_1, rT_102_12, rT_102_13, rT_102_14, rT_102_18, rT_102_19, rT_102_20, rT_102_21, rT_102_22, rT_102_23, rT_102_25, rT_102_26, rT_102_27, rT_102_30, rT_102_31, rT_102_32, rT_102_33, rT_102_34, a1, h1, c_isAliveM (d := 6) (by decide) hS, h10, hbl, nI_1]
      exact hih M v4 v5 (by omega) (by rw [h4]; simp) (by rw [h5]; simp) hS hI2
    | true =>
      rw [hba] at hbl hih
      by_cases hho : σ 5 (5 + l) = nI j
      · have hho' : (σ 5 (5 + l) = nI j) = True := eq_true hho
        simp +decide only [e_162_36, e_162_37, e_162_40, e_162_43, e_162_44, e_162_46, e_162_49, e_162_52, e_162_53, e_162_56, e_162_57, e_162_59, e_162_60, e_162_61, e_162_62, e_162_91, e_162_94, ↓reduceIte, Int32.reduceAdd, Int32.reduceSub, an_0, an_1, an_2, an_3, an_4, an_5, tc_0, tc_1, tc_2, tc_3, tc_4, tc_5, tc_6, tc_7, tc_8, tc_9, tc_10, tc_11, tc_12, tc_13, tc_14, tc_15, tc_16, tc_17, tc_18, tc_19, tc_20, tc_21, tc_22, tc_23, tc_24, tc_25, tc_26, tc_27, tc_28, tc_29, tc_30, tc_31, tc_32, lcl_none, lcl_int, lcl_ref, lcl_null, lcl_long, okR_nil, okR_int, okR_ref, okR_null, okR_long, pushR_some, pushR_none, va_rf_some, va_rf_none, true_and, and_true, true_implies, false_implies, not_true_eq_false, not_false_eq_true, implies_true, bI_eq0, bI_eq1, bI_01, Classical.not_not, or_em, false_and, and_false, hS.1, hS.2.1, hS.2.2.1, hS.2.2.2.1, kT_102, kT_103, kT_104, kT_105, kT_106, kT_107, kT_108, kT_109, kT_110, kT_111, kT_112, kT_113, kT_114, kT_115, kT_116, kT_117, kT_118, kT_119, kT_120, nT_103, nT_104, nT_105, nT_106, nT_107, nT_108, nT_109, nT_110, nT_111, nT_112, nT_113, nT_114, nT_115, nT_116, nT_117, nT_118, nT_119, nT_120, rT_102_1, rT_102_12, rT_102_13, rT_102_14, rT_102_18, rT_102_19, rT_102_20, rT_102_21, rT_102_22, rT_102_23, rT_102_25, rT_102_26, rT_102_27, rT_102_30, rT_102_31, rT_102_32, rT_102_33, rT_102_34, a1, h1, c_isAliveM (d := 6) (by decide) hS, h10, hbl, e5, hcl, hin, hh, hho', nI_1]
        exact hih M v4 v5 (by omega) (by rw [h4]; simp [hho]) (by rw [h5]; simp [hho]) hS hI2
      · have hho' : (σ 5 (5 + l) = nI j) = False := eq_false hho
        have hbit : a / 2 ^ l % 2 = 1 := of_decide_eq_true hba
        cases hall : alB (bitB (otN σ a j)) (gB (wC σ L P j n) a) l with
        | false =>
          rw [hall] at h5 hih
          have h5 : v5 = 0 := h5
          simp +decide only [e_162_36, e_162_37, e_162_40, e_162_43, e_162_44, e_162_46, e_162_49, e_162_52, e_162_53, e_162_56, e_162_57, e_162_59, e_162_60, e_162_61, e_162_62, e_162_65, e_162_66, e_162_68, e_162_70, e_162_73, e_162_74, e_162_75, e_162_77, e_162_78, e_162_81, e_162_84, e_162_85, e_162_88, e_162_89, e_162_91, e_162_94, ↓reduceIte, Int32.reduceAdd, Int32.reduceSub, an_0, an_1, an_2, an_3, an_4, an_5, tc_0, tc_1, tc_2, tc_3, tc_4, tc_5, tc_6, tc_7, tc_8, tc_9, tc_10, tc_11, tc_12, tc_13, tc_14, tc_15, tc_16, tc_17, tc_18, tc_19, tc_20, tc_21, tc_22, tc_23, tc_24, tc_25, tc_26, tc_27, tc_28, tc_29, tc_30, tc_31, tc_32, lcl_none, lcl_int, lcl_ref, lcl_null, lcl_long, okR_nil, okR_int, okR_ref, okR_null, okR_long, pushR_some, pushR_none, va_rf_some, va_rf_none, true_and, and_true, true_implies, false_implies, not_true_eq_false, not_false_eq_true, implies_true, bI_eq0, bI_eq1, bI_01, Classical.not_not, or_em, false_and, and_false, hS.1, hS.2.1, hS.2.2.1, hS.2.2.2.1, kT_102, kT_103, kT_104, kT_105, kT_106, kT_107, kT_108, kT_109, kT_110, kT_111, kT_112, kT_113, kT_114, kT_115, kT_116, kT_117, kT_118, kT_119, kT_120, nT_103, nT_104, nT_105, nT_106, nT_107, nT_108, nT_109, nT_110, nT_111, nT_112, nT_113, nT_114, nT_115, nT_116, nT_117, nT_118, nT_119, nT_120, rT_102_1, rT_102_12, rT_102_13, rT_102_14, rT_102_18, rT_102_19, rT_102_20, rT_102_21, rT_102_22, rT_102_23, rT_102_25, rT_102_26, rT_102_27, rT_102_30, rT_102_31, rT_102_32, rT_102_33, rT_102_34, a1, h1, c_isAliveM (d := 6) (by decide) hS, h10, hbl, e5, hcl, hin, hh, hho', h5, nI_1]
          exact hih M 1 0 (by omega) (by simp [hho, b01]) (by simp [hho, b01]) hS hI2
        | true =>
          rw [hall] at h5 hih
          have h5 : v5 = 1 := h5
          simp +decide only [e_162_36, e_162_37, e_162_40, e_162_43, e_162_44, e_162_46, e_162_49, e_162_52, e_162_53, e_162_56, e_162_57, e_162_59, e_162_60, e_162_61, e_162_62, e_162_65, e_162_66, e_162_68, e_162_70, e_162_73, e_162_74, e_162_75, e_162_77, e_162_78, ↓reduceIte, Int32.reduceAdd, Int32.reduceSub, an_0, an_1, an_2, an_3, an_4, an_5, tc_0, tc_1, tc_2, tc_3, tc_4, tc_5, tc_6, tc_7, tc_8, tc_9, tc_10, tc_11, tc_12, tc_13, tc_14, tc_15, tc_16, tc_17, tc_18, tc_19, tc_20, tc_21, tc_22, tc_23, tc_24, tc_25, tc_26, tc_27, tc_28, tc_29, tc_30, tc_31, tc_32, lcl_none, lcl_int, lcl_ref, lcl_null, lcl_long, okR_nil, okR_int, okR_ref, okR_null, okR_long, pushR_some, pushR_none, va_rf_some, va_rf_none, true_and, and_true, true_implies, false_implies, not_true_eq_false, not_false_eq_true, implies_true, bI_eq0, bI_eq1, bI_01, Classical.not_not, or_em, false_and, and_false, hS.1, hS.2.1, hS.2.2.1, hS.2.2.2.1, kT_102, kT_103, kT_104, kT_105, kT_106, kT_107, kT_108, kT_109, kT_110, kT_111, kT_112, kT_113, kT_114, kT_115, kT_116, kT_117, kT_118, kT_119, kT_120, nT_103, nT_104, nT_105, nT_106, nT_107, nT_108, nT_109, nT_110, nT_111, nT_112, nT_113, nT_114, nT_115, nT_116, nT_117, nT_118, nT_119, nT_120, rT_102_1, rT_102_12, rT_102_13, rT_102_14, rT_102_18, rT_102_19, rT_102_20, rT_102_21, rT_102_22, rT_102_23, rT_102_25, rT_102_26, rT_102_27, rT_102_30, rT_102_31, rT_102_32, rT_102_33, rT_102_34, a1, h1, c_isAliveM (d := 6) (by decide) hS, h10, hbl, e5, hcl, hin, hh, hho', h5]
          refine EvD_mono (c_gainByM (d := 6) (by decide) hS hM hI ha haL hj (show l < L by omega) hn) ?_
          rintro r M2 ⟨rfl, hS2, hI3⟩
          rw [seN_a hbit]
          have hg := mg_gt (w30 _ (Nat.lt_of_le_of_lt (clN_le a l) haL)) (w30 _ haL)
          cases hgb : gB (wC σ L P j n) a l with
          | false =>
            rw [hgb] at hih
            have hle : (nI (wC σ L P j n (clN a l)) - nI (wC σ L P j n a) ≤ 0) = True := by rw [hg]; exact eq_true (Nat.not_lt.mp (of_decide_eq_false hgb))
            simp +decide only [e_162_81, e_162_84, e_162_85, e_162_88, e_162_89, e_162_91, e_162_94, ↓reduceIte, Int32.reduceAdd, Int32.reduceSub, an_0, an_1, an_2, an_3, an_4, an_5, tc_0, tc_1, tc_2, tc_3, tc_4, tc_5, tc_6, tc_7, tc_8, tc_9, tc_10, tc_11, tc_12, tc_13, tc_14, tc_15, tc_16, tc_17, tc_18, tc_19, tc_20, tc_21, tc_22, tc_23, tc_24, tc_25, tc_26, tc_27, tc_28, tc_29, tc_30, tc_31, tc_32, lcl_none, lcl_int, lcl_ref, lcl_null, lcl_long, okR_nil, okR_int, okR_ref, okR_null, okR_long, pushR_some, pushR_none, va_rf_some, va_rf_none, true_and, and_true, true_implies, false_implies, not_true_eq_false, not_false_eq_true, implies_true, bI_eq0, bI_eq1, bI_01, Classical.not_not, or_em, false_and, and_false, hle, nI_1]
            exact hih M2 1 0 (by omega) (by simp [hho, b01]) (by simp [hho, b01]) hS2 (hI3.trans hI2)
          | true =>
            rw [hgb] at hih
            have hle : (nI (wC σ L P j n (clN a l)) - nI (wC σ L P j n a) ≤ 0) = False := by rw [hg]; exact eq_false (Nat.not_le.mpr (of_decide_eq_true hgb))
            simp +decide only [e_162_81, e_162_84, e_162_85, e_162_88, e_162_89, e_162_91, e_162_94, ↓reduceIte, Int32.reduceAdd, Int32.reduceSub, an_0, an_1, an_2, an_3, an_4, an_5, tc_0, tc_1, tc_2, tc_3, tc_4, tc_5, tc_6, tc_7, tc_8, tc_9, tc_10, tc_11, tc_12, tc_13, tc_14, tc_15, tc_16, tc_17, tc_18, tc_19, tc_20, tc_21, tc_22, tc_23, tc_24, tc_25, tc_26, tc_27, tc_28, tc_29, tc_30, tc_31, tc_32, lcl_none, lcl_int, lcl_ref, lcl_null, lcl_long, okR_nil, okR_int, okR_ref, okR_null, okR_long, pushR_some, pushR_none, va_rf_some, va_rf_none, true_and, and_true, true_implies, false_implies, not_true_eq_false, not_false_eq_true, implies_true, bI_eq0, bI_eq1, bI_01, Classical.not_not, or_em, false_and, and_false, hle, nI_1]
            exact hih M2 1 1 (by omega) (by simp [hho, b01]) (by simp [hho, b01]) hS2 (hI3.trans hI2)
theorem L_gaM {L P a n : Nat} {b : Bool} {σ : Sg} {M0 : ab_M} {Q : ab_Q} (hM0 : RM M0 σ) (hI : IV L P σ) (ha : σ 5 10 = nI a) (haL : a < 2 ^ L) (hn : n ≤ 20) (hQ : ∀ M1, Sh b M1 → mI M1 = mI M0 → Q (some (.int (nI (setN (gaB σ L P n a) P)))) M1) : ∀ m j M x4 x5 x6, j + m = P → Sh b M → mI M = mI M0 → Ev 6 162 17 [some (.ref 102), some (.int (nI n)), some (.int (nI (setN (gaB σ L P n a) j))), some (.int (nI j)), x4, x5, x6] [] M Q := by
  obtain ⟨hL, hP, iL, iP⟩ := IV_n hI
  have h32 := pow_L hL
  intro m
  induction m with
  | zero =>
    intro j M x4 x5 x6 hj hS hI2
    have hM : RM M σ := RM_scr hM0 (fun a _ _ => by rw [hI2])
    have a2 : mI M 102 17 = nI P := hM.1.1.2.1.trans iP
    have h1 : (nI P ≤ nI j) = True := by rw [nI_leE (by omega) (by omega)]; exact eq_true (by omega)
    rw [e_162_17]
    simp +decide only [e_162_18, e_162_19, e_162_22, e_162_123, e_162_124, ↓reduceIte, Int32.reduceAdd, Int32.reduceSub, an_0, an_1, an_2, an_3, an_4, an_5, tc_0, tc_1, tc_2, tc_3, tc_4, tc_5, tc_6, tc_7, tc_8, tc_9, tc_10, tc_11, tc_12, tc_13, tc_14, tc_15, tc_16, tc_17, tc_18, tc_19, tc_20, tc_21, tc_22, tc_23, tc_24, tc_25, tc_26, tc_27, tc_28, tc_29, tc_30, tc_31, tc_32, lcl_none, lcl_int, lcl_ref, lcl_null, lcl_long, okR_nil, okR_int, okR_ref, okR_null, okR_long, pushR_some, pushR_none, va_rf_some, va_rf_none, true_and, and_true, true_implies, false_implies, not_true_eq_false, not_false_eq_true, implies_true, bI_eq0, bI_eq1, bI_01, Classical.not_not, or_em, false_and, and_false, hS.1, hS.2.1, hS.2.2.1, hS.2.2.2.1, kT_102, kT_103, kT_104, kT_105, kT_106, kT_107, kT_108, kT_109, kT_110, kT_111, kT_112, kT_113, kT_114, kT_115, kT_116, kT_117, kT_118, kT_119, kT_120, nT_103, nT_104, nT_105, nT_106, nT_107, nT_108, nT_109, nT_110, nT_111, nT_112, nT_113, nT_114, nT_115, nT_116, nT_117, nT_118, nT_119, nT_120, rT_102_1, rT_102_12, rT_102_13, rT_102_14, rT_102_18, rT_102_19, rT_102_20, rT_102_21, rT_102_22, rT_102_23, rT_102_25, rT_102_26, rT_102_27, rT_102_30, rT_102_31, rT_102_32, rT_102_33, rT_102_34, a2, h1]
    rw [show j = P by omega]
    exact hQ M hS hI2
  | succ m ih =>
    intro j M x4 x5 x6 hj hS hI2
    have hM : RM M σ := RM_scr hM0 (fun a _ _ => by rw [hI2])
    have a2 : mI M 102 17 = nI P := hM.1.1.2.1.trans iP
    have h1 : (nI P ≤ nI j) = False := by rw [nI_leE (by omega) (by omega)]; exact eq_false (by omega)
    rw [e_162_17]
    simp +decide only [e_162_18, e_162_19, e_162_22, e_162_25, e_162_26, e_162_28, e_162_29, e_162_31, e_162_32, ↓reduceIte, Int32.reduceAdd, Int32.reduceSub, an_0, an_1, an_2, an_3, an_4, an_5, tc_0, tc_1, tc_2, tc_3, tc_4, tc_5, tc_6, tc_7, tc_8, tc_9, tc_10, tc_11, tc_12, tc_13, tc_14, tc_15, tc_16, tc_17, tc_18, tc_19, tc_20, tc_21, tc_22, tc_23, tc_24, tc_25, tc_26, tc_27, tc_28, tc_29, tc_30, tc_31, tc_32, lcl_none, lcl_int, lcl_ref, lcl_null, lcl_long, okR_nil, okR_int, okR_ref, okR_null, okR_long, pushR_some, pushR_none, va_rf_some, va_rf_none, true_and, and_true, true_implies, false_implies, not_true_eq_false, not_false_eq_true, implies_true, bI_eq0, bI_eq1, bI_01, Classical.not_not, or_em, false_and, and_false, hS.1, hS.2.1, hS.2.2.1, hS.2.2.2.1, kT_102, kT_103, kT_104, kT_105, kT_106, kT_107, kT_108, kT_109, kT_110, kT_111, kT_112, kT_113, kT_114, kT_115, kT_116, kT_117, kT_118, kT_119, kT_120, nT_103, nT_104, nT_105, nT_106, nT_107, nT_108, nT_109, nT_110, nT_111, nT_112, nT_113, nT_114, nT_115, nT_116, nT_117, nT_118, nT_119, nT_120, rT_102_1, rT_102_12, rT_102_13, rT_102_14, rT_102_18, rT_102_19, rT_102_20, rT_102_21, rT_102_22, rT_102_23, rT_102_25, rT_102_26, rT_102_27, rT_102_30, rT_102_31, rT_102_32, rT_102_33, rT_102_34, a2, h1]
    refine L_gaI (M0 := M) (L := L) (P := P) (a := a) (n := n) (j := j) hM hI ha haL (by omega) hn (fun M1 hS1 hI1 => ?_) L 0 M 0 1 (by omega) rfl rfl hS rfl
    have es : setN (gaB σ L P n a) (j + 1) = setN (gaB σ L P n a) j + if gaB σ L P n a j = true then 2 ^ j else 0 := rfl
    have hih := fun x4 x5 x6 => ih (j + 1) M1 x4 x5 x6 (by omega) hS1 (hI1.trans hI2)
    have hg : gaB σ L P n a j = (anB (bitB (otN σ a j)) L && alB (bitB (otN σ a j)) (gB (wC σ L P j n) a) L) := rfl
    have hor := or_sh j (by omega) _ (setN_lt (gaB σ L P n a) j)
    rw [es, hg] at hih
    cases h4 : anB (bitB (otN σ a j)) L with
    | false =>
      rw [h4] at hih
      simp +decide only [e_162_97, e_162_98, e_162_100, e_162_103, e_162_105, e_162_108, e_162_109, e_162_110, e_162_111, e_162_114, e_162_115, e_162_116, e_162_117, e_162_120, ↓reduceIte, Int32.reduceAdd, Int32.reduceSub, an_0, an_1, an_2, an_3, an_4, an_5, tc_0, tc_1, tc_2, tc_3, tc_4, tc_5, tc_6, tc_7, tc_8, tc_9, tc_10, tc_11, tc_12, tc_13, tc_14, tc_15, tc_16, tc_17, tc_18, tc_19, tc_20, tc_21, tc_22, tc_23, tc_24, tc_25, tc_26, tc_27, tc_28, tc_29, tc_30, tc_31, tc_32, lcl_none, lcl_int, lcl_ref, lcl_null, lcl_long, okR_nil, okR_int, okR_ref, okR_null, okR_long, pushR_some, pushR_none, va_rf_some, va_rf_none, true_and, and_true, true_implies, false_implies, not_true_eq_false, not_false_eq_true, implies_true, bI_eq0, bI_eq1, bI_01, Classical.not_not, or_em, false_and, and_false, b01, cond_false, Int32.or_zero, nI_1]
      exact hih _ _ _
    | true =>
      cases h5 : alB (bitB (otN σ a j)) (gB (wC σ L P j n) a) L with
      | false =>
        rw [h4, h5] at hih
        simp +decide only [e_162_97, e_162_98, e_162_100, e_162_103, e_162_105, e_162_108, e_162_109, e_162_110, e_162_111, e_162_114, e_162_115, e_162_116, e_162_117, e_162_120, ↓reduceIte, Int32.reduceAdd, Int32.reduceSub, an_0, an_1, an_2, an_3, an_4, an_5, tc_0, tc_1, tc_2, tc_3, tc_4, tc_5, tc_6, tc_7, tc_8, tc_9, tc_10, tc_11, tc_12, tc_13, tc_14, tc_15, tc_16, tc_17, tc_18, tc_19, tc_20, tc_21, tc_22, tc_23, tc_24, tc_25, tc_26, tc_27, tc_28, tc_29, tc_30, tc_31, tc_32, lcl_none, lcl_int, lcl_ref, lcl_null, lcl_long, okR_nil, okR_int, okR_ref, okR_null, okR_long, pushR_some, pushR_none, va_rf_some, va_rf_none, true_and, and_true, true_implies, false_implies, not_true_eq_false, not_false_eq_true, implies_true, bI_eq0, bI_eq1, bI_01, Classical.not_not, or_em, false_and, and_false, b01, cond_false, cond_true, Int32.or_zero, nI_1]
        exact hih _ _ _
      | true =>
        rw [h4, h5] at hih
        simp +decide only [e_162_97, e_162_98, e_162_100, e_162_103, e_162_105, e_162_108, e_162_109, e_162_110, e_162_111, e_162_114, e_162_115, e_162_116, e_162_117, e_162_120, ↓reduceIte, Int32.reduceAdd, Int32.reduceSub, an_0, an_1, an_2, an_3, an_4, an_5, tc_0, tc_1, tc_2, tc_3, tc_4, tc_5, tc_6, tc_7, tc_8, tc_9, tc_10, tc_11, tc_12, tc_13, tc_14, tc_15, tc_16, tc_17, tc_18, tc_19, tc_20, tc_21, tc_22, tc_23, tc_24, tc_25, tc_26, tc_27, tc_28, tc_29, tc_30, tc_31, tc_32, lcl_none, lcl_int, lcl_ref, lcl_null, lcl_long, okR_nil, okR_int, okR_ref, okR_null, okR_long, pushR_some, pushR_none, va_rf_some, va_rf_none, true_and, and_true, true_implies, false_implies, not_true_eq_false, not_false_eq_true, implies_true, bI_eq0, bI_eq1, bI_01, Classical.not_not, or_em, false_and, and_false, b01, cond_true, hor, nI_1]
        exact hih _ _ _
theorem op_gainers (n : Int32) (M : ab_M) (hM : Rel M) : lwStep Rel 88 162 [n] M := by
  obtain ⟨b, σ, L, P, hS, hC, hMo, hI⟩ := hM
  obtain ⟨a, ha32, haL, ha⟩ := IV_al hI
  by_cases hn : 1 ≤ n ∧ n ≤ 20
  · have hnx : (1 ≤ n ∧ n ≤ 20) = True := eq_true hn
    obtain ⟨k, hk, rfl⟩ := of_20 ⟨Int32.le_trans (by decide) hn.1, hn.2⟩
    refine RO hS hC hMo hI (nI (setN (gaB σ L P k a) P)) ?_ (fun M1 hS1 hM1 => ?_)
    · show EvD 20 88 [.ref 0, .int (nI k)] M _
      rw [b_88 (by decide)]
      simp +decide only [e_88_0, e_88_1, e_88_4, e_88_7, e_88_9, e_88_10, e_88_11, e_88_12, e_88_13, ↓reduceIte, Int32.reduceAdd, Int32.reduceSub, an_0, an_1, an_2, an_3, an_4, an_5, tc_0, tc_1, tc_2, tc_3, tc_4, tc_5, tc_6, tc_7, tc_8, tc_9, tc_10, tc_11, tc_12, tc_13, tc_14, tc_15, tc_16, tc_17, tc_18, tc_19, tc_20, tc_21, tc_22, tc_23, tc_24, tc_25, tc_26, tc_27, tc_28, tc_29, tc_30, tc_31, tc_32, lcl_none, lcl_int, lcl_ref, lcl_null, lcl_long, okR_nil, okR_int, okR_ref, okR_null, okR_long, pushR_some, pushR_none, va_rf_some, va_rf_none, true_and, and_true, true_implies, false_implies, not_true_eq_false, not_false_eq_true, implies_true, bI_eq0, bI_eq1, bI_01, Classical.not_not, or_em, false_and, and_false, c_mayBeTried (d := 4) (by decide), hnx]
      exact L_gaC hC hI ha haL hk (fun M1 hS1 hf1 => ⟨rfl, hS1, fun a ha => hf1 a (by omega)⟩) P 0 M none (by omega) hS (fun _ _ => rfl)
    · show EvD 20 162 [.ref 102, .int (nI k)] M1 _
      rw [b_162 (by decide)]
      simp +decide only [e_162_0, e_162_1, e_162_2, e_162_4, e_162_7, e_162_10, e_162_12, e_162_13, e_162_14, e_162_15, e_162_16, ↓reduceIte, Int32.reduceAdd, Int32.reduceSub, an_0, an_1, an_2, an_3, an_4, an_5, tc_0, tc_1, tc_2, tc_3, tc_4, tc_5, tc_6, tc_7, tc_8, tc_9, tc_10, tc_11, tc_12, tc_13, tc_14, tc_15, tc_16, tc_17, tc_18, tc_19, tc_20, tc_21, tc_22, tc_23, tc_24, tc_25, tc_26, tc_27, tc_28, tc_29, tc_30, tc_31, tc_32, lcl_none, lcl_int, lcl_ref, lcl_null, lcl_long, okR_nil, okR_int, okR_ref, okR_null, okR_long, pushR_some, pushR_none, va_rf_some, va_rf_none, true_and, and_true, true_implies, false_implies, not_true_eq_false, not_false_eq_true, implies_true, bI_eq0, bI_eq1, bI_01, Classical.not_not, or_em, false_and, and_false, c_in (d := 6) (by decide), hnx]
      exact L_gaM hM1 hI ha haL hk (fun M2 hS2 hI2 => ⟨rfl, hS2, fun a _ => by rw [hI2]⟩) P 0 M1 none none none (by omega) hS1 rfl
  · have hnx : (1 ≤ n ∧ n ≤ 20) = False := eq_false hn
    refine RO hS hC hMo hI (-2000000002) ?_ (fun M1 hS1 hM1 => ?_)
    · show EvD 20 88 [.ref 0, .int n] M _
      rw [b_88 (by decide)]
      simp +decide only [e_88_0, e_88_1, e_88_4, e_88_7, e_88_9, e_88_10, e_88_11, e_88_12, e_88_13, ↓reduceIte, Int32.reduceAdd, Int32.reduceSub, an_0, an_1, an_2, an_3, an_4, an_5, tc_0, tc_1, tc_2, tc_3, tc_4, tc_5, tc_6, tc_7, tc_8, tc_9, tc_10, tc_11, tc_12, tc_13, tc_14, tc_15, tc_16, tc_17, tc_18, tc_19, tc_20, tc_21, tc_22, tc_23, tc_24, tc_25, tc_26, tc_27, tc_28, tc_29, tc_30, tc_31, tc_32, lcl_none, lcl_int, lcl_ref, lcl_null, lcl_long, okR_nil, okR_int, okR_ref, okR_null, okR_long, pushR_some, pushR_none, va_rf_some, va_rf_none, true_and, and_true, true_implies, false_implies, not_true_eq_false, not_false_eq_true, implies_true, bI_eq0, bI_eq1, bI_01, Classical.not_not, or_em, false_and, and_false, c_mayBeTried (d := 4) (by decide), hnx]
      exact hS
    · show EvD 20 162 [.ref 102, .int n] M1 _
      rw [b_162 (by decide)]
      simp +decide only [e_162_0, e_162_1, e_162_2, e_162_4, e_162_7, e_162_10, e_162_12, e_162_13, e_162_14, e_162_15, e_162_16, ↓reduceIte, Int32.reduceAdd, Int32.reduceSub, an_0, an_1, an_2, an_3, an_4, an_5, tc_0, tc_1, tc_2, tc_3, tc_4, tc_5, tc_6, tc_7, tc_8, tc_9, tc_10, tc_11, tc_12, tc_13, tc_14, tc_15, tc_16, tc_17, tc_18, tc_19, tc_20, tc_21, tc_22, tc_23, tc_24, tc_25, tc_26, tc_27, tc_28, tc_29, tc_30, tc_31, tc_32, lcl_none, lcl_int, lcl_ref, lcl_null, lcl_long, okR_nil, okR_int, okR_ref, okR_null, okR_long, pushR_some, pushR_none, va_rf_some, va_rf_none, true_and, and_true, true_implies, false_implies, not_true_eq_false, not_false_eq_true, implies_true, bI_eq0, bI_eq1, bI_01, Classical.not_not, or_em, false_and, and_false, c_in (d := 6) (by decide), hnx]
      exact hS1
