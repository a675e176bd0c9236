/-! nurse, the model: who is willing -/
theorem L_nB {L P a n l : Nat} {b : Bool} {σ : Sg} {kk ix : Int32} {x7 x8 x9 x10 : Option Value} {M0 : ab_M} {Q : ab_Q} (hM0 : RM M0 σ) (hI : IV L P σ) (ha : σ 5 10 = nI a) (haL : a < 2 ^ L) (hn : n ≤ 20) (hl : l < L) (hal : bitB a l = true) (hQ : ∀ M1, Sh b M1 → mI M1 = mI M0 → Ev 6 165 80 [some (.ref 102), some (.int (nI n)), some (.int kk), some (.int (nI (nuU σ L P n a l))), some (.int ix), some (.int (nI l)), some (.int (nI P)), x7, x8, x9, x10] [] M1 Q) : ∀ m s M, s + m = P → Sh b M → mI M = mI M0 → Ev 6 165 42 [some (.ref 102), some (.int (nI n)), some (.int kk), some (.int (nI (setN (nuB σ L P n a l) s))), some (.int ix), some (.int (nI l)), some (.int (nI s)), x7, x8, x9, x10] [] M Q := by
  obtain ⟨hL, hP, iL, iP⟩ := IV_n hI
  intro m
  induction m with
  | zero =>
    intro s M hs hS hI2
    have hM : RM M σ := RM_scr hM0 (fun a _ _ => by rw [hI2])
    have a2 : mI M 102 17 = nI P := hM.1.1.2.1.trans iP
    have h1 : (nI P ≤ nI s) = True := by rw [nI_leE (by omega) (by omega)]; exact eq_true (by omega)
    rw [e_165_42]
    simp +decide only [e_165_44, e_165_45, e_165_48, ↓reduceIte, Int32.reduceAdd, Int32.reduceSub, an_0, an_1, an_2, an_3, an_4, an_5, tc_0, tc_1, tc_2, tc_3, tc_4, tc_5, tc_6, tc_7, tc_8, tc_9, tc_10, tc_11, tc_12, tc_13, tc_14, tc_15, tc_16, tc_17, tc_18, tc_19, tc_20, tc_21, tc_22, tc_23, tc_24, tc_25, tc_26, tc_27, tc_28, tc_29, tc_30, tc_31, tc_32, lcl_none, lcl_int, lcl_ref, lcl_null, lcl_long, okR_nil, okR_int, okR_ref, okR_null, okR_long, pushR_some, pushR_none, va_rf_some, va_rf_none, true_and, and_true, true_implies, false_implies, not_true_eq_false, not_false_eq_true, implies_true, bI_eq0, bI_eq1, bI_01, Classical.not_not, or_em, false_and, and_false, hS.1, hS.2.1, hS.2.2.1, hS.2.2.2.1, kT_102, kT_103, kT_104, kT_105, kT_106, kT_107, kT_108, kT_109, kT_110, kT_111, kT_112, kT_113, kT_114, kT_115, kT_116, kT_117, kT_118, kT_119, kT_120, nT_103, nT_104, nT_105, nT_106, nT_107, nT_108, nT_109, nT_110, nT_111, nT_112, nT_113, nT_114, nT_115, nT_116, nT_117, nT_118, nT_119, nT_120, rT_102_1, rT_102_12, rT_102_13, rT_102_14, rT_102_18, rT_102_19, rT_102_20, rT_102_21, rT_102_22, rT_102_23, rT_102_25, rT_102_26, rT_102_27, rT_102_30, rT_102_31, rT_102_32, rT_102_33, rT_102_34, a2, h1]
    rw [show s = P by omega]
    exact hQ M hS hI2
  | succ m ih =>
    intro s M hs hS hI2
    have hM : RM M σ := RM_scr hM0 (fun a _ _ => by rw [hI2])
    have a2 : mI M 102 17 = nI P := hM.1.1.2.1.trans iP
    have h1 : (nI P ≤ nI s) = False := by rw [nI_leE (by omega) (by omega)]; exact eq_false (by omega)
    have hbit : a / 2 ^ l % 2 = 1 := of_decide_eq_true hal
    have w30 := wC_30 hI (show s < P by omega) hn
    have es : setN (nuB σ L P n a l) (s + 1) = setN (nuB σ L P n a l) s + if nuB σ L P n a l s = true then 2 ^ s else 0 := rfl
    have hnu : nuB σ L P n a l s = !gB (wC σ L P s n) a l := by unfold nuB; rw [hal, Bool.true_and]
    have hor := or_sh s (by omega) _ (setN_lt (nuB σ L P n a l) s)
    have hih := fun M1 => ih (s + 1) M1 (by omega)
    rw [es, hnu] at hih
    rw [e_165_42]
    simp +decide only [e_165_44, e_165_45, e_165_48, e_165_51, e_165_52, e_165_53, e_165_55, e_165_57, e_165_58, ↓reduceIte, Int32.reduceAdd, Int32.reduceSub, an_0, an_1, an_2, an_3, an_4, an_5, tc_0, tc_1, tc_2, tc_3, tc_4, tc_5, tc_6, tc_7, tc_8, tc_9, tc_10, tc_11, tc_12, tc_13, tc_14, tc_15, tc_16, tc_17, tc_18, tc_19, tc_20, tc_21, tc_22, tc_23, tc_24, tc_25, tc_26, tc_27, tc_28, tc_29, tc_30, tc_31, tc_32, lcl_none, lcl_int, lcl_ref, lcl_null, lcl_long, okR_nil, okR_int, okR_ref, okR_null, okR_long, pushR_some, pushR_none, va_rf_some, va_rf_none, true_and, and_true, true_implies, false_implies, not_true_eq_false, not_false_eq_true, implies_true, bI_eq0, bI_eq1, bI_01, Classical.not_not, or_em, false_and, and_false, hS.1, hS.2.1, hS.2.2.1, hS.2.2.2.1, kT_102, kT_103, kT_104, kT_105, kT_106, kT_107, kT_108, kT_109, kT_110, kT_111, kT_112, kT_113, kT_114, kT_115, kT_116, kT_117, kT_118, kT_119, kT_120, nT_103, nT_104, nT_105, nT_106, nT_107, nT_108, nT_109, nT_110, nT_111, nT_112, nT_113, nT_114, nT_115, nT_116, nT_117, nT_118, nT_119, nT_120, rT_102_1, rT_102_12, rT_102_13, rT_102_14, rT_102_18, rT_102_19, rT_102_20, rT_102_21, rT_102_22, rT_102_23, rT_102_25, rT_102_26, rT_102_27, rT_102_30, rT_102_31, rT_102_32, rT_102_33, rT_102_34, a2, h1]
    refine EvD_mono (c_gainByM (d := 6) (by decide) hS hM hI ha haL (show s < P by omega) hl hn) ?_
    rintro r M2 ⟨rfl, hS2, hI3⟩
    rw [seN_a hbit]
    have hg := mg_gt (w30 _ (Nat.lt_of_le_of_lt (clN_le a l) haL)) (w30 _ haL)
    cases hgb : gB (wC σ L P s n) a l with
    | false =>
      rw [hgb] at hih
      have hle : (nI (wC σ L P s n (clN a l)) - nI (wC σ L P s n a) ≤ 0) = True := by rw [hg]; exact eq_true (Nat.not_lt.mp (of_decide_eq_false hgb))
      simp +decide only [e_165_61, e_165_64, e_165_65, e_165_68, e_165_69, e_165_71, e_165_72, e_165_73, e_165_74, e_165_77, ↓reduceIte, Int32.reduceAdd, Int32.reduceSub, an_0, an_1, an_2, an_3, an_4, an_5, tc_0, tc_1, tc_2, tc_3, tc_4, tc_5, tc_6, tc_7, tc_8, tc_9, tc_10, tc_11, tc_12, tc_13, tc_14, tc_15, tc_16, tc_17, tc_18, tc_19, tc_20, tc_21, tc_22, tc_23, tc_24, tc_25, tc_26, tc_27, tc_28, tc_29, tc_30, tc_31, tc_32, lcl_none, lcl_int, lcl_ref, lcl_null, lcl_long, okR_nil, okR_int, okR_ref, okR_null, okR_long, pushR_some, pushR_none, va_rf_some, va_rf_none, true_and, and_true, true_implies, false_implies, not_true_eq_false, not_false_eq_true, implies_true, bI_eq0, bI_eq1, bI_01, Classical.not_not, or_em, false_and, and_false, hle, hor, nI_1]
      exact hih M2 hS2 (hI3.trans hI2)
    | true =>
      rw [hgb] at hih
      have hle : (nI (wC σ L P s n (clN a l)) - nI (wC σ L P s n a) ≤ 0) = False := by rw [hg]; exact eq_false (Nat.not_le.mpr (of_decide_eq_true hgb))
      simp +decide only [e_165_61, e_165_64, e_165_65, e_165_68, e_165_69, e_165_71, e_165_72, e_165_73, e_165_74, e_165_77, ↓reduceIte, Int32.reduceAdd, Int32.reduceSub, an_0, an_1, an_2, an_3, an_4, an_5, tc_0, tc_1, tc_2, tc_3, tc_4, tc_5, tc_6, tc_7, tc_8, tc_9, tc_10, tc_11, tc_12, tc_13, tc_14, tc_15, tc_16, tc_17, tc_18, tc_19, tc_20, tc_21, tc_22, tc_23, tc_24, tc_25, tc_26, tc_27, tc_28, tc_29, tc_30, tc_31, tc_32, lcl_none, lcl_int, lcl_ref, lcl_null, lcl_long, okR_nil, okR_int, okR_ref, okR_null, okR_long, pushR_some, pushR_none, va_rf_some, va_rf_none, true_and, and_true, true_implies, false_implies, not_true_eq_false, not_false_eq_true, implies_true, bI_eq0, bI_eq1, bI_01, Classical.not_not, or_em, false_and, and_false, hle, Int32.or_zero, nI_1]
      exact hih M2 hS2 (hI3.trans hI2)
theorem L_nA {L P a n : Nat} {b : Bool} {σ : Sg} {kk : Int32} {x7 x8 x9 x10 : Option Value} {M0 : ab_M} {Q : ab_Q} (hM0 : RM M0 σ) (hI : IV L P σ) (ha : σ 5 10 = nI a) (haL : a < 2 ^ L) (hn : n ≤ 20) (hQ : ∀ M1 w ix x6, Sh b M1 → (∀ c, c ≠ 120 → mI M1 c = mI M0 c) → (∀ i, i < plN a L → mI M1 120 i = nI (nuU σ L P n a (lfI a i))) → Ev 6 165 97 [some (.ref 102), some (.int (nI n)), some (.int kk), some (.int w), some (.int ix), some (.int (nI L)), x6, x7, x8, x9, x10] [] M1 Q) : ∀ m l M w x6, l + m = L → Sh b M → (∀ c, c ≠ 120 → mI M c = mI M0 c) → (∀ i, i < plN a l → mI M 120 i = nI (nuU σ L P n a (lfI a i))) → Ev 6 165 19 [some (.ref 102), some (.int (nI n)), some (.int kk), some (.int w), some (.int (nI (plN a l))), some (.int (nI l)), x6, x7, x8, x9, x10] [] M Q := by
  obtain ⟨hL, hP, iL, iP⟩ := IV_n hI
  have h32 := pow_L hL
  intro m
  induction m with
  | zero =>
    intro l M w x6 hl hS hf hA
    have hM : RM M σ := RM_scr hM0 (fun a _ ha => hf a (by omega))
    have a1 : mI M 102 16 = nI L := hM.1.1.1.trans iL
    have h1 : (nI L ≤ nI l) = True := by rw [nI_leE (by omega) (by omega)]; exact eq_true (by omega)
    rw [e_165_19]
    simp +decide only [e_165_21, e_165_22, e_165_25, ↓reduceIte, Int32.reduceAdd, Int32.reduceSub, an_0, an_1, an_2, an_3, an_4, an_5, tc_0, tc_1, tc_2, tc_3, tc_4, tc_5, tc_6, tc_7, tc_8, tc_9, tc_10, tc_11, tc_12, tc_13, tc_14, tc_15, tc_16, tc_17, tc_18, tc_19, tc_20, tc_21, tc_22, tc_23, tc_24, tc_25, tc_26, tc_27, tc_28, tc_29, tc_30, tc_31, tc_32, lcl_none, lcl_int, lcl_ref, lcl_null, lcl_long, okR_nil, okR_int, okR_ref, okR_null, okR_long, pushR_some, pushR_none, va_rf_some, va_rf_none, true_and, and_true, true_implies, false_implies, not_true_eq_false, not_false_eq_true, implies_true, bI_eq0, bI_eq1, bI_01, Classical.not_not, or_em, false_and, and_false, hS.1, hS.2.1, hS.2.2.1, hS.2.2.2.1, kT_102, kT_103, kT_104, kT_105, kT_106, kT_107, kT_108, kT_109, kT_110, kT_111, kT_112, kT_113, kT_114, kT_115, kT_116, kT_117, kT_118, kT_119, kT_120, nT_103, nT_104, nT_105, nT_106, nT_107, nT_108, nT_109, nT_110, nT_111, nT_112, nT_113, nT_114, nT_115, nT_116, nT_117, nT_118, nT_119, nT_120, rT_102_1, rT_102_12, rT_102_13, rT_102_14, rT_102_18, rT_102_19, rT_102_20, rT_102_21, rT_102_22, rT_102_23, rT_102_25, rT_102_26, rT_102_27, rT_102_30, rT_102_31, rT_102_32, rT_102_33, rT_102_34, a1, h1]
    have e : l = L := by omega
    subst e
    exact hQ M _ _ _ hS hf hA
  | succ m ih =>
    intro l M w x6 hl hS hf hA
    have hM : RM M σ := RM_scr hM0 (fun a _ ha => hf a (by omega))
    have a1 : mI M 102 16 = nI L := hM.1.1.1.trans iL
    have h10 : mI M 111 10 = nI a := (hM.2.2.1 10 (by decide)).trans ha
    have h1 : (nI L ≤ nI l) = False := by rw [nI_leE (by omega) (by omega)]; exact eq_false (by omega)
    have hbl := hasB_b (x := a) (l := l) (by omega) (by omega)
    have hps := plN_s a l
    rw [e_165_19]
    cases hba : bitB a l with
    | false =>
      rw [hba] at hbl
      rw [hba, if_neg (by decide), Nat.add_zero (plN a l)] at hps
      have hih := ih (l + 1) M w x6 (by omega) hS hf
      rw [hps] at hih
      simp +decide only [e_165_21, e_165_22, e_165_25, e_165_28, e_165_29, e_165_31, e_165_34, e_165_91, e_165_94, ↓reduceIte, Int32.reduceAdd, Int32.reduceSub, an_0, an_1, an_2, an_3, an_4, an_5, tc_0, tc_1, tc_2, tc_3, tc_4, tc_5, tc_6, tc_7, tc_8, tc_9, tc_10, tc_11, tc_12, tc_13, tc_14, tc_15, tc_16, tc_17, tc_18, tc_19, tc_20, tc_21, tc_22, tc_23, tc_24, tc_25, tc_26, tc_27, tc_28, tc_29, tc_30, tc_31, tc_32, lcl_none, lcl_int, lcl_ref, lcl_null, lcl_long, okR_nil, okR_int, okR_ref, okR_null, okR_long, pushR_some, pushR_none, va_rf_some, va_rf_none, true_and, and_true, true_implies, false_implies, not_true_eq_false, not_false_eq_true, implies_true, bI_eq0, bI_eq1, bI_01, Classical.not_not, or_em, false_and, and_false, hS.1, hS.2.1, hS.2.2.1, hS.2.2.2.1, kT_102, kT_103, kT_104, kT_105, kT_106, kT_107, kT_108, kT_109, kT_110, kT_111, kT_112, kT_113, kT_114, kT_115, kT_116, kT_117, kT_118, kT_119, kT_120, nT_103, nT_104, nT_105, nT_106, nT_107, nT_108, nT_109, nT_110, nT_111, nT_112, nT_113, nT_114, nT_115, nT_116, nT_117, nT_118, nT_119, nT_120, rT_102_1, rT_102_12, rT_102_13, rT_102_14, rT_102_18, rT_102_19, rT_102_20, rT_102_21, rT_102_22, rT_102_23, rT_102_25, rT_102_26, rT_102_27, rT_102_30, rT_102_31, rT_102_32, rT_102_33, rT_102_34, a1, h1, c_isAliveM (d := 6) (by decide) hS, h10, hbl, nI_1]
      exact hih hA
    | true =>
      rw [hba] at hbl
      rw [hba, if_pos rfl] at hps
      have hplt := plN_lt (a := a) (l := l) (by omega) hba
      have hp5 : plN a 5 ≤ 5 := by rw [plN_pop (L := 5) (Nat.le_refl 5) (Nat.lt_of_lt_of_le haL h32)]; exact pop5_le a (by omega)
      simp +decide only [e_165_21, e_165_22, e_165_25, e_165_28, e_165_29, e_165_31, e_165_34, e_165_37, e_165_38, e_165_39, e_165_40, ↓reduceIte, Int32.reduceAdd, Int32.reduceSub, an_0, an_1, an_2, an_3, an_4, an_5, tc_0, tc_1, tc_2, tc_3, tc_4, tc_5, tc_6, tc_7, tc_8, tc_9, tc_10, tc_11, tc_12, tc_13, tc_14, tc_15, tc_16, tc_17, tc_18, tc_19, tc_20, tc_21, tc_22, tc_23, tc_24, tc_25, tc_26, tc_27, tc_28, tc_29, tc_30, tc_31, tc_32, lcl_none, lcl_int, lcl_ref, lcl_null, lcl_long, okR_nil, okR_int, okR_ref, okR_null, okR_long, pushR_some, pushR_none, va_rf_some, va_rf_none, true_and, and_true, true_implies, false_implies, not_true_eq_false, not_false_eq_true, implies_true, bI_eq0, bI_eq1, bI_01, Classical.not_not, or_em, false_and, and_false, hS.1, hS.2.1, hS.2.2.1, hS.2.2.2.1, kT_102, kT_103, kT_104, kT_105, kT_106, kT_107, kT_108, kT_109, kT_110, kT_111, kT_112, kT_113, kT_114, kT_115, kT_116, kT_117, kT_118, kT_119, kT_120, nT_103, nT_104, nT_105, nT_106, nT_107, nT_108, nT_109, nT_110, nT_111, nT_112, nT_113, nT_114, nT_115, nT_116, nT_117, nT_118, nT_119, nT_120, rT_102_1, rT_102_12, rT_102_13, rT_102_14, rT_102_18, rT_102_19, rT_102_20, rT_102_21, rT_102_22, rT_102_23, rT_102_25, rT_102_26, rT_102_27, rT_102_30, rT_102_31, rT_102_32, rT_102_33, rT_102_34, a1, h1, c_isAliveM (d := 6) (by decide) hS, h10, hbl]
      refine L_nB (M0 := M) hM hI ha haL hn (show l < L by omega) hba (fun M1 hS1 hI1 => ?_) P 0 M (by omega) hS rfl
      have hcl : (nI (plN a l)).toNatClampNeg = plN a l := nI_clamp (by omega)
      have hin : inX (nI (plN a l)) 9 = True := eq_true (inX_nI (by decide) (by omega))
      have hih := fun M w x6 => ih (l + 1) M w x6 (by omega)
      rw [hps] at hih
      simp +decide only [e_165_80, e_165_81, e_165_84, e_165_86, e_165_87, e_165_88, e_165_91, e_165_94, ↓reduceIte, Int32.reduceAdd, Int32.reduceSub, an_0, an_1, an_2, an_3, an_4, an_5, tc_0, tc_1, tc_2, tc_3, tc_4, tc_5, tc_6, tc_7, tc_8, tc_9, tc_10, tc_11, tc_12, tc_13, tc_14, tc_15, tc_16, tc_17, tc_18, tc_19, tc_20, tc_21, tc_22, tc_23, tc_24, tc_25, tc_26, tc_27, tc_28, tc_29, tc_30, tc_31, tc_32, lcl_none, lcl_int, lcl_ref, lcl_null, lcl_long, okR_nil, okR_int, okR_ref, okR_null, okR_long, pushR_some, pushR_none, va_rf_some, va_rf_none, true_and, and_true, true_implies, false_implies, not_true_eq_false, not_false_eq_true, implies_true, bI_eq0, bI_eq1, bI_01, Classical.not_not, or_em, false_and, and_false, hS1.1, hS1.2.1, hS1.2.2.1, kT_102, kT_103, kT_104, kT_105, kT_106, kT_107, kT_108, kT_109, kT_110, kT_111, kT_112, kT_113, kT_114, kT_115, kT_116, kT_117, kT_118, kT_119, kT_120, nT_103, nT_104, nT_105, nT_106, nT_107, nT_108, nT_109, nT_110, nT_111, nT_112, nT_113, nT_114, nT_115, nT_116, nT_117, nT_118, nT_119, nT_120, rT_102_1, rT_102_12, rT_102_13, rT_102_14, rT_102_18, rT_102_19, rT_102_20, rT_102_21, rT_102_22, rT_102_23, rT_102_25, rT_102_26, rT_102_27, rT_102_30, rT_102_31, rT_102_32, rT_102_33, rT_102_34, hcl, hin, nI_1]
      refine hih _ _ _ hS1 (fun c hc => by rw [mI_wI_ne hc, hI1]; exact hf c hc) (fun i hi => ?_)
      rw [mI_wI]
      by_cases e : i = plN a l
      · rw [if_pos ⟨rfl, e⟩, e, lfI_pl a (by omega) l (by omega) hba]
      · rw [if_neg (fun z => e z.2), hI1]
        exact hA i (by omega)
/-! nurse, the model: all ways in their order -/
theorem L_nT {P k : Nat} {b : Bool} {n w ix : Int32} {x7 x8 x9 x10 : Option Value} {M : ab_M} {Q : ab_Q} (hS : Sh b M) (hk : k ≤ 5) (h17 : mI M 102 17 = nI P) (hQ : Ev 6 165 124 [some (.ref 102), some (.int n), some (.int (nI k)), some (.int w), some (.int ix), some (.int (nI (P ^ k))), some (.int (nI k)), x7, x8, x9, x10] [] M Q) : ∀ m i, i + m = k → Ev 6 165 103 [some (.ref 102), some (.int n), some (.int (nI k)), some (.int w), some (.int ix), some (.int (nI (P ^ i))), some (.int (nI i)), x7, x8, x9, x10] [] M Q := by
  intro m
  induction m with
  | zero =>
    intro i hi
    have h1 : (nI k ≤ nI i) = True := by rw [nI_leE (by omega) (by omega)]; exact eq_true (by omega)
    rw [e_165_103]
    simp +decide only [e_165_105, e_165_106, ↓reduceIte, Int32.reduceAdd, Int32.reduceSub, an_0, an_1, an_2, an_3, an_4, an_5, tc_0, tc_1, tc_2, tc_3, tc_4, tc_5, tc_6, tc_7, tc_8, tc_9, tc_10, tc_11, tc_12, tc_13, tc_14, tc_15, tc_16, tc_17, tc_18, tc_19, tc_20, tc_21, tc_22, tc_23, tc_24, tc_25, tc_26, tc_27, tc_28, tc_29, tc_30, tc_31, tc_32, lcl_none, lcl_int, lcl_ref, lcl_null, lcl_long, okR_nil, okR_int, okR_ref, okR_null, okR_long, pushR_some, pushR_none, va_rf_some, va_rf_none, true_and, and_true, true_implies, false_implies, not_true_eq_false, not_false_eq_true, implies_true, bI_eq0, bI_eq1, bI_01, Classical.not_not, or_em, false_and, and_false, h1]
    rw [show i = k by omega]
    exact hQ
  | succ m ih =>
    intro i hi
    have h1 : (nI k ≤ nI i) = False := by rw [nI_leE (by omega) (by omega)]; exact eq_false (by omega)
    have e1 : nI (P ^ i) * nI P = nI (P ^ (i + 1)) := by rw [pk_mul, Nat.pow_succ]
    rw [e_165_103]
    simp +decide only [e_165_105, e_165_106, e_165_109, e_165_111, e_165_112, e_165_115, e_165_116, e_165_118, e_165_121, ↓reduceIte, Int32.reduceAdd, Int32.reduceSub, an_0, an_1, an_2, an_3, an_4, an_5, tc_0, tc_1, tc_2, tc_3, tc_4, tc_5, tc_6, tc_7, tc_8, tc_9, tc_10, tc_11, tc_12, tc_13, tc_14, tc_15, tc_16, tc_17, tc_18, tc_19, tc_20, tc_21, tc_22, tc_23, tc_24, tc_25, tc_26, tc_27, tc_28, tc_29, tc_30, tc_31, tc_32, lcl_none, lcl_int, lcl_ref, lcl_null, lcl_long, okR_nil, okR_int, okR_ref, okR_null, okR_long, pushR_some, pushR_none, va_rf_some, va_rf_none, true_and, and_true, true_implies, false_implies, not_true_eq_false, not_false_eq_true, implies_true, bI_eq0, bI_eq1, bI_01, Classical.not_not, or_em, false_and, and_false, hS.1, hS.2.1, hS.2.2.1, hS.2.2.2.1, kT_102, kT_103, kT_104, kT_105, kT_106, kT_107, kT_108, kT_109, kT_110, kT_111, kT_112, kT_113, kT_114, kT_115, kT_116, kT_117, kT_118, kT_119, kT_120, nT_103, nT_104, nT_105, nT_106, nT_107, nT_108, nT_109, nT_110, nT_111, nT_112, nT_113, nT_114, nT_115, nT_116, nT_117, nT_118, nT_119, nT_120, rT_102_1, rT_102_12, rT_102_13, rT_102_14, rT_102_18, rT_102_19, rT_102_20, rT_102_21, rT_102_22, rT_102_23, rT_102_25, rT_102_26, rT_102_27, rT_102_30, rT_102_31, rT_102_32, rT_102_33, rT_102_34, h1, h17, e1, nI_1]
    exact ih (i + 1) (by omega)
