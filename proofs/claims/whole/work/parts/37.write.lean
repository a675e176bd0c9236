/-! write -/
def wrS (σ : Sg) (n : Nat) (s w : Int32) : Sg := fun j k => if j = 0 ∧ k = 7 then nI (n + 1) else if j = 7 ∧ k = n then s else if j = 8 ∧ k = n then w else σ j k
theorem wrS_ne {σ : Sg} {n j : Nat} {s w : Int32} (h0 : j ≠ 0) (h7 : j ≠ 7) (h8 : j ≠ 8) : wrS σ n s w j = σ j := by
  funext k
  unfold wrS
  rw [if_neg (fun e => h0 e.1), if_neg (fun e => h7 e.1), if_neg (fun e => h8 e.1)]
theorem wrS_0 {σ : Sg} {n k : Nat} {s w : Int32} (h : k ≠ 7) : wrS σ n s w 0 k = σ 0 k := by
  unfold wrS
  rw [if_neg (fun e => h e.2), if_neg (fun e => absurd e.1 (by decide)), if_neg (fun e => absurd e.1 (by decide))]
theorem wrS_07 {σ : Sg} {n : Nat} {s w : Int32} : wrS σ n s w 0 7 = nI (n + 1) := by
  unfold wrS
  rw [if_pos ⟨rfl, rfl⟩]
theorem wrS_7 {σ : Sg} {n k : Nat} {s w : Int32} : wrS σ n s w 7 k = if k = n then s else σ 7 k := by
  unfold wrS
  rw [if_neg (fun e => absurd e.1 (by decide))]
  by_cases h : k = n
  · rw [if_pos ⟨rfl, h⟩, if_pos h]
  · rw [if_neg (fun e => h e.2), if_neg (fun e => h e.2), if_neg h]
theorem wrS_8 {σ : Sg} {n k : Nat} {s w : Int32} : wrS σ n s w 8 k = if k = n then w else σ 8 k := by
  unfold wrS
  rw [if_neg (fun e => absurd e.1 (by decide)), if_neg (fun e => absurd e.1 (by decide))]
  by_cases h : k = n
  · rw [if_pos ⟨rfl, h⟩, if_pos h]
  · rw [if_neg (fun e => h e.2), if_neg h]
theorem IV_wr {L P n j : Nat} {w : Int32} {σ : Sg} (h : IV L P σ) (hn : σ 0 7 = nI n) (hn2 : n < 15) (hj : j < P) : IV L P (wrS σ n (nI j) w) := by
  have h0 := h
  obtain ⟨⟨a1, a2, a3, a4, a5, a6⟩, b5, b6, ⟨n', b7, e7, b8⟩, t, q, x, nw, p, im⟩ := h
  have en : n' = n := by
    have e := e7.symm.trans hn
    rw [nI_eqE (by omega) (by omega)] at e
    exact e
  subst en
  refine ⟨⟨a1, a2, by rw [wrS_0 (by decide)]; exact a3, by rw [wrS_0 (by decide)]; exact a4, by rw [wrS_0 (by decide)]; exact a5, by rw [wrS_0 (by decide)]; exact a6⟩, by rw [wrS_0 (by decide)]; exact b5, by rw [wrS_0 (by decide)]; exact b6, ⟨n' + 1, by omega, wrS_07, fun i hi => ?_⟩, by rw [wrS_ne (j := 1) (by decide) (by decide) (by decide)]; exact t, by rw [wrS_ne (j := 2) (by decide) (by decide) (by decide), wrS_ne (j := 3) (by decide) (by decide) (by decide)]; exact q, by rw [wrS_ne (j := 4) (by decide) (by decide) (by decide)]; exact x, by rw [wrS_ne (j := 5) (by decide) (by decide) (by decide)]; exact nw, fun i hi hin => ?_, fun i hi => ?_⟩
  · rw [wrS_7]
    by_cases e : i = n'
    · rw [if_pos e]
      exact ⟨j, hj, rfl⟩
    · rw [if_neg e]
      exact b8 i (by omega)
  · rw [wrS_0 (by decide)] at hin
    rw [wrS_ne (by omega) (by omega) (by omega)]
    exact p i hi hin
  · rw [wrS_ne (j := 12) (by decide) (by decide) (by decide), wrS_ne (j := 9) (by decide) (by decide) (by decide), wrS_ne (j := 10 + i) (by omega) (by omega) (by omega)]
    exact im i hi
theorem C_write1 {d L P n : Nat} {b : Bool} {σ : Sg} {w : Int32} {M : ab_M} (hd : 2 ≤ d) (hS : Sh b M) (hC : RC b M σ) (hI : IV L P σ) (hn : σ 0 7 = nI n) (hn2 : n < 15) (j : Nat) (hj : j < P) (hw : 0 ≤ w ∧ w ≤ 999999) : EvD d 95 [.ref 0, .int (nI j), .int w] M (fun r M1 => r = some (.int (nI (n + 1))) ∧ Sh b M1 ∧ frC M M1 ∧ RC b M1 (wrS σ n (nI j) w)) := by
  obtain ⟨hL, hP, iL, iP⟩ := IV_n hI
  obtain ⟨c1, c2, c3, c4, c5, c6, c7⟩ := hC
  have a2 := c1.1.2.1
  have h89 : mI M 89 2 = nI n := c1.2.1.2.2.2.2.trans hn
  have hb := chL_cases b
  have hy : (0 ≤ nI j ∧ nI j < σ 0 1) = True := by rw [iP]; exact eq_true (ix_nI (by omega) hj)
  have hp1 : (w < 0) = False := eq_false (Int32.not_lt.mpr hw.1)
  have hp2 : (w ≤ 999999) = True := eq_true hw.2
  have hn0 : (nI n < 0) = False := eq_false (nI_pos (by omega))
  have hn1 : (15 ≤ nI n) = False := by rw [show (15 : Int32) = nI 15 from rfl, nI_leE (by omega) (by omega)]; exact eq_false (by omega)
  have hn3 : (nI n < 15) = True := by rw [show (15 : Int32) = nI 15 from rfl, nI_ltE (by omega) (by omega)]; exact eq_true (by omega)
  have cn : (nI n).toNatClampNeg = n := nI_clamp (by omega)
  have iN : inX (nI n) 15 = True := eq_true (inX_nI (by decide) (by omega))
  rw [b_95 hd]
  simp +decide only [e_95_0, e_95_1, e_95_4, e_95_5, e_95_8, e_95_11, e_95_13, e_95_14, e_95_15, e_95_18, e_95_19, e_95_22, e_95_25, e_95_27, e_95_28, e_95_29, e_95_32, e_95_35, e_95_38, e_95_40, e_95_41, e_95_42, e_95_45, e_95_46, e_95_47, e_95_50, ↓reduceIte, Int32.reduceAdd, Int32.reduceSub, an_0, an_1, an_2, an_3, an_4, an_5, tc_0, tc_1, tc_2, tc_3, tc_4, tc_5, tc_6, tc_7, tc_8, tc_9, tc_10, tc_11, tc_12, tc_13, tc_14, tc_15, tc_16, tc_17, tc_18, tc_19, tc_20, tc_21, tc_22, tc_23, tc_24, tc_25, tc_26, tc_27, tc_28, tc_29, tc_30, tc_31, tc_32, lcl_none, lcl_int, lcl_ref, lcl_null, lcl_long, okR_nil, okR_int, okR_ref, okR_null, okR_long, pushR_some, pushR_none, va_rf_some, va_rf_none, true_and, and_true, true_implies, false_implies, not_true_eq_false, not_false_eq_true, implies_true, bI_eq0, bI_eq1, bI_01, Classical.not_not, or_em, false_and, and_false, hS.1, hS.2.1, hS.2.2.1, hS.2.2.2.1, kT_0, kT_1, kT_2, kT_15, kT_16, kT_17, kT_18, kT_19, kT_80, kT_81, kT_82, kT_89, kT_90, kT_91, kT_92, kT_93, kT_94, kT_95, kT_96, kT_97, kT_98, kT_99, kT_100, kT_101, nT_2, nT_16, nT_17, nT_19, nT_81, nT_82, nT_90, nT_91, nT_94, nT_95, nT_97, nT_98, nT_100, nT_101, rT_0_0, rT_0_3, rT_0_4, rT_0_5, rT_0_6, rT_0_7, rT_0_8, rT_0_9, rT_0_10, rT_1_0, rT_15_0, rT_15_1, rT_18_0, rT_80_0, rT_80_1, rT_89_0, rT_89_1, rT_93_6, rT_93_7, rT_96_0, rT_96_1, rT_99_0, rT_99_1, chS1, chK, chR7, chK7, chN7, chR8, chK8, chN8, chR9, chK9, chN9, chR10, chK10, chN10, chR11, chK11, chN11, mI_wI, mI_wJ, mI_wR, mJ_wI, mJ_wJ, mJ_wR, mR_wI, mR_wJ, mR_wR, mK_wI, mK_wJ, mK_wR, mN_wI, mN_wJ, mN_wR, mZ_wI, mZ_wJ, mZ_wR, c_hasSub (d := 1) (by decide), b_2 (Nat.le_refl 1), e_2_0, e_2_1, e_2_4, e_2_6, e_2_9, e_2_10, e_2_13, e_2_14, b_3 (Nat.le_refl 1), e_3_0, e_3_1, e_3_4, e_3_7, e_3_8, e_3_11, e_3_13, e_3_16, e_3_17, e_3_20, e_3_21, e_3_24, e_3_25, e_3_26, e_3_27, e_3_30, e_3_31, e_3_34, e_3_35, e_3_36, e_3_37, e_3_37r, e_3_38, e_3_41, e_3_42, e_3_43, e_3_46, e_3_47, e_3_50, a2, hy, hp1, hp2, h89, hn0, hn1, hn3, cn, iN, nI_1]
  have hm : ∀ a, a ≠ 89 → a ≠ 90 → a ≠ 91 → mI (wI (wI (wI M 90 n (nI j)) 91 n w) 89 2 (nI (n + 1))) a = mI M a := fun a h1 h2 h3 => by rw [mI_wI_ne h1, mI_wI_ne h3, mI_wI_ne h2]
  refine ⟨hS, fun a ha => hm a (by omega) (by omega) (by omega), ?_, c2.kp (fun a g1 g2 => hm a (by omega) (by omega) (by omega)) (wrS_0 (by decide)) (wrS_0 (by decide)) (wrS_ne (by decide) (by decide) (by decide)) (wrS_ne (by decide) (by decide) (by decide)) (wrS_ne (by decide) (by decide) (by decide)), c3.kp (fun a g1 g2 => hm a (by omega) (by omega) (by omega)) (fun k _ => congrFun (wrS_ne (by decide) (by decide) (by decide)) k), c4.kp (hm _ (by decide) (by decide) (by decide)) (wrS_ne (by decide) (by decide) (by decide)), ?_, c6.kp (fun a g1 g2 => ?_) (wrS_ne (by decide) (by decide) (by decide)) (wrS_ne (by decide) (by decide) (by decide)) (wrS_ne (by decide) (by decide) (by decide)) (wrS_ne (by decide) (by decide) (by decide)), c7.kp (by rw [hm 18 (by decide) (by decide) (by decide)]) (fun a g1 g2 => hm a (by omega) (by omega) (by omega)) (wrS_0 (by decide)) (fun i hi => wrS_ne (by omega) (by omega) (by omega))⟩
  · have h0 := c1
    unfold RC0 at h0 ⊢
    rw [hm (chL b) (by omega) (by omega) (by omega), hm 0 (by decide) (by decide) (by decide), hm 92 (by decide) (by decide) (by decide), hm 1 (by decide) (by decide) (by decide), hm 18 (by decide) (by decide) (by decide), wrS_07, wrS_0 (by decide), wrS_0 (by decide), wrS_0 (by decide), wrS_0 (by decide), wrS_0 (by decide), wrS_0 (by decide), wrS_0 (by decide), wrS_ne (by decide) (by decide) (by decide), mI_wI, if_pos ⟨rfl, rfl⟩]
    exact ⟨h0.1, ⟨h0.2.1.1, h0.2.1.2.1, h0.2.1.2.2.1, h0.2.1.2.2.2.1, rfl⟩, h0.2.2⟩
  · intro k hk
    rw [mI_wI_ne (by decide), mI_wI_ne (by decide), mI_wI, mI_wI_ne (by decide), mI_wI, wrS_7, wrS_8, mI_wI_ne (by decide)]
    by_cases e : k = n
    · simp [e]
    · have h5 := c5 k hk
      simp [e, h5.1, h5.2]
  · by_cases h : a = 89
    · omega
    · exact hm a (by omega) (by omega) (by omega)
theorem M_write1 {d L P n : Nat} {b : Bool} {σ : Sg} {w : Int32} {M : ab_M} (hd : 3 ≤ d) (hS : Sh b M) (hM : RM M σ) (hI : IV L P σ) (hn : σ 0 7 = nI n) (hn2 : n < 15) (j : Nat) (hj : j < P) (hw : 0 ≤ w ∧ w ≤ 999999) : EvD d 174 [.ref 102, .int (nI j), .int w] M (fun r M1 => r = some (.int (nI (n + 1))) ∧ Sh b M1 ∧ frM M M1 ∧ RM M1 (wrS σ n (nI j) w)) := by
  obtain ⟨hL, hP, iL, iP⟩ := IV_n hI
  have hy : (0 ≤ nI j ∧ nI j ≤ mI M 102 17 - 1) = True := by rw [hM.1.1.2.1, iP, ix_pred hP]; exact eq_true (ix_nI (by omega) hj)
  obtain ⟨c1, c2, c3, c4, c5, c6, c7⟩ := hM
  have h29 : mI M 102 29 = nI n := c1.2.1.2.2.2.2.trans hn
  have hw' : (0 ≤ w ∧ w ≤ 999999) = True := eq_true hw
  have hn1 : (nI n = 15) = False := by rw [show (15 : Int32) = nI 15 from rfl, nI_eqE (by omega) (by omega)]; exact eq_false (by omega)
  have e1 : 2 * nI n = nI (2 * n) := pk_mul 2 n
  have e2 : nI (2 * n) + 1 = nI (2 * n + 1) := nI_add (2 * n) 1
  have cn : (nI (2 * n)).toNatClampNeg = 2 * n := nI_clamp (by omega)
  have cn1 : (nI (2 * n + 1)).toNatClampNeg = 2 * n + 1 := nI_clamp (by omega)
  have iN : inX (nI (2 * n)) 30 = True := eq_true (inX_nI (by decide) (by omega))
  have iN1 : inX (nI (2 * n + 1)) 30 = True := eq_true (inX_nI (by decide) (by omega))
  have e3 : nI n + 1 = nI (n + 1) := nI_add n 1
  rw [b_174 hd]
  simp +decide only [e_174_0, e_174_1, e_174_2, e_174_5, e_174_8, e_174_10, e_174_11, e_174_12, e_174_13, e_174_15, e_174_18, e_174_21, e_174_23, e_174_24, e_174_25, e_174_28, e_174_30, e_174_33, e_174_35, e_174_36, e_174_37, e_174_40, e_174_41, e_174_42, e_174_45, e_174_46, e_174_47, e_174_48, e_174_49, e_174_52, e_174_53, e_174_54, e_174_57, e_174_58, e_174_59, e_174_60, e_174_61, e_174_62, e_174_63, e_174_63r, e_174_64, e_174_67, e_174_68, e_174_69, e_174_72, e_174_73, e_174_76, ↓reduceIte, Int32.reduceAdd, Int32.reduceSub, an_0, an_1, an_2, an_3, an_4, an_5, tc_0, tc_1, tc_2, tc_3, tc_4, tc_5, tc_6, tc_7, tc_8, tc_9, tc_10, tc_11, tc_12, tc_13, tc_14, tc_15, tc_16, tc_17, tc_18, tc_19, tc_20, tc_21, tc_22, tc_23, tc_24, tc_25, tc_26, tc_27, tc_28, tc_29, tc_30, tc_31, tc_32, lcl_none, lcl_int, lcl_ref, lcl_null, lcl_long, okR_nil, okR_int, okR_ref, okR_null, okR_long, pushR_some, pushR_none, va_rf_some, va_rf_none, true_and, and_true, true_implies, false_implies, not_true_eq_false, not_false_eq_true, implies_true, bI_eq0, bI_eq1, bI_01, Classical.not_not, or_em, false_and, and_false, hS.1, hS.2.1, hS.2.2.1, hS.2.2.2.1, kT_102, kT_103, kT_104, kT_105, kT_106, kT_107, kT_108, kT_109, kT_110, kT_111, kT_112, kT_113, kT_114, kT_115, kT_116, kT_117, kT_118, kT_119, kT_120, nT_103, nT_104, nT_105, nT_106, nT_107, nT_108, nT_109, nT_110, nT_111, nT_112, nT_113, nT_114, nT_115, nT_116, nT_117, nT_118, nT_119, nT_120, rT_102_1, rT_102_12, rT_102_13, rT_102_14, rT_102_18, rT_102_19, rT_102_20, rT_102_21, rT_102_22, rT_102_23, rT_102_25, rT_102_26, rT_102_27, rT_102_30, rT_102_31, rT_102_32, rT_102_33, rT_102_34, mI_wI, mI_wJ, mI_wR, mJ_wI, mJ_wJ, mJ_wR, mR_wI, mR_wJ, mR_wR, mK_wI, mK_wJ, mK_wR, mN_wI, mN_wJ, mN_wR, mZ_wI, mZ_wJ, mZ_wR, c_isOneM (d := 2) (Nat.le_refl 2) hS, c_in (d := 2) (by decide), hy, hw', h29, hn1, e1, e2, e3, cn, cn1, iN, iN1]
  have hm : ∀ a, a ≠ 102 → a ≠ 116 → mI (wI (wI (wI M 116 (2 * n) (nI j)) 116 (2 * n + 1) w) 102 29 (nI (n + 1))) a = mI M a := fun a h1 h2 => by rw [mI_wI_ne h1, mI_wI_ne h2, mI_wI_ne h2]
  have h02 : ∀ k, k ≠ 29 → mI (wI (wI (wI M 116 (2 * n) (nI j)) 116 (2 * n + 1) w) 102 29 (nI (n + 1))) 102 k = mI M 102 k := fun k hk => by rw [mI_wI, if_neg (fun z => hk z.2), mI_wI_ne (by decide), mI_wI_ne (by decide)]
  refine ⟨hS, fun a ha => hm a (by omega) (by omega), ?_, c2.kp (fun a g1 g2 => hm a (by omega) (by omega)) (wrS_0 (by decide)) (wrS_0 (by decide)) (wrS_ne (by decide) (by decide) (by decide)) (wrS_ne (by decide) (by decide) (by decide)) (wrS_ne (by decide) (by decide) (by decide)), c3.kp (hm _ (by decide) (by decide)) (wrS_ne (by decide) (by decide) (by decide)), c4.kp (hm _ (by decide) (by decide)) (wrS_ne (by decide) (by decide) (by decide)), ?_, c6.kp (fun a g1 g2 => hm a (by omega) (by omega)) (wrS_ne (by decide) (by decide) (by decide)) (wrS_ne (by decide) (by decide) (by decide)) (wrS_ne (by decide) (by decide) (by decide)) (wrS_ne (by decide) (by decide) (by decide)), c7.kp (hm _ (by decide) (by decide)) (wrS_0 (by decide)) (fun i hi => wrS_ne (by omega) (by omega) (by omega))⟩
  · have h0 := c1
    unfold RM0 at h0 ⊢
    rw [h02 16 (by decide), h02 17 (by decide), h02 15 (by decide), h02 7 (by decide), h02 28 (by decide), h02 0 (by decide), h02 24 (by decide), hm 107 (by decide) (by decide), wrS_07, wrS_0 (by decide), wrS_0 (by decide), wrS_0 (by decide), wrS_0 (by decide), wrS_0 (by decide), wrS_0 (by decide), wrS_0 (by decide), wrS_ne (by decide) (by decide) (by decide), mI_wI, if_pos ⟨rfl, rfl⟩]
    exact ⟨h0.1, ⟨h0.2.1.1, h0.2.1.2.1, h0.2.1.2.2.1, h0.2.1.2.2.2.1, rfl⟩, h0.2.2⟩
  · intro k hk
    have h5 := c5 k hk
    rw [wrS_7, wrS_8, mI_wI_ne (by decide)]
    by_cases e : k = n
    · subst e
      rw [if_pos rfl, if_pos rfl]
      constructor
      · rw [mI_wI, if_neg (fun z => by omega), mI_wI, if_pos ⟨rfl, rfl⟩]
      · rw [mI_wI, if_pos ⟨rfl, rfl⟩]
    · rw [if_neg e, if_neg e]
      constructor
      · rw [mI_wI, if_neg (fun z => by omega), mI_wI, if_neg (fun z => by omega)]
        exact h5.1
      · rw [mI_wI, if_neg (fun z => by omega), mI_wI, if_neg (fun z => by omega)]
        exact h5.2
def wrV (P n : Nat) (s w : Int32) : Int32 := if 0 ≤ s ∧ s < nI P then (if 0 ≤ w ∧ w ≤ 999999 then -2000000004 else -2000000002) else -2000000001
theorem write0 {d L P n : Nat} {b : Bool} {σ : Sg} {s w : Int32} {M : ab_M} {K : ab_Q} (hS : Sh b M) (hI : IV L P σ) (hn : σ 0 7 = nI n) (hn2 : n ≤ 15) (h : ¬ ((0 ≤ s ∧ s < nI P) ∧ (0 ≤ w ∧ w ≤ 999999) ∧ n < 15)) : (2 ≤ d → RC b M σ → EvD d 95 [.ref 0, .int s, .int w] M K = K (some (.int (wrV P n s w))) M) ∧ (3 ≤ d → RM M σ → EvD d 174 [.ref 102, .int s, .int w] M K = K (some (.int (wrV P n s w))) M) := by
  obtain ⟨hL, hP, iL, iP⟩ := IV_n hI
  constructor
  · intro hd hC
    have a2 := hC.1.1.2.1.trans iP
    have h89 : mI M 89 2 = nI n := hC.1.2.1.2.2.2.2.trans hn
    rw [b_95 hd]
    by_cases h1 : 0 ≤ s ∧ s < nI P
    · have h1' : (0 ≤ s ∧ s < nI P) = True := eq_true h1
      by_cases h2 : w < 0
      · have h2' : (w < 0) = True := eq_true h2
        have h3' : (0 ≤ w ∧ w ≤ 999999) = False := eq_false (fun z => absurd h2 (Int32.not_lt.mpr z.1))
        simp +decide only [e_95_0, e_95_1, e_95_4, e_95_5, e_95_8, e_95_11, e_95_13, e_95_14, e_95_15, e_95_18, e_95_19, e_95_22, e_95_25, e_95_27, e_95_28, e_95_29, e_95_32, e_95_35, e_95_38, e_95_40, e_95_41, e_95_42, e_95_45, e_95_46, e_95_47, e_95_50, ↓reduceIte, Int32.reduceAdd, Int32.reduceSub, an_0, an_1, an_2, an_3, an_4, an_5, tc_0, tc_1, tc_2, tc_3, tc_4, tc_5, tc_6, tc_7, tc_8, tc_9, tc_10, tc_11, tc_12, tc_13, tc_14, tc_15, tc_16, tc_17, tc_18, tc_19, tc_20, tc_21, tc_22, tc_23, tc_24, tc_25, tc_26, tc_27, tc_28, tc_29, tc_30, tc_31, tc_32, lcl_none, lcl_int, lcl_ref, lcl_null, lcl_long, okR_nil, okR_int, okR_ref, okR_null, okR_long, pushR_some, pushR_none, va_rf_some, va_rf_none, true_and, and_true, true_implies, false_implies, not_true_eq_false, not_false_eq_true, implies_true, bI_eq0, bI_eq1, bI_01, Classical.not_not, or_em, false_and, and_false, hS.1, hS.2.1, hS.2.2.1, hS.2.2.2.1, kT_0, kT_1, kT_2, kT_15, kT_16, kT_17, kT_18, kT_19, kT_80, kT_81, kT_82, kT_89, kT_90, kT_91, kT_92, kT_93, kT_94, kT_95, kT_96, kT_97, kT_98, kT_99, kT_100, kT_101, nT_2, nT_16, nT_17, nT_19, nT_81, nT_82, nT_90, nT_91, nT_94, nT_95, nT_97, nT_98, nT_100, nT_101, rT_0_0, rT_0_3, rT_0_4, rT_0_5, rT_0_6, rT_0_7, rT_0_8, rT_0_9, rT_0_10, rT_1_0, rT_15_0, rT_15_1, rT_18_0, rT_80_0, rT_80_1, rT_89_0, rT_89_1, rT_93_6, rT_93_7, rT_96_0, rT_96_1, rT_99_0, rT_99_1, chS1, chK, chR7, chK7, chN7, chR8, chK8, chN8, chR9, chK9, chN9, chR10, chK10, chN10, chR11, chK11, chN11, c_hasSub (d := 1) (by decide), a2, h1', h2', h3', wrV]
      · have h2' : (w < 0) = False := eq_false h2
        by_cases h3 : w ≤ 999999
        · have h3' : (w ≤ 999999) = True := eq_true h3
          have h4' : (0 ≤ w) = True := eq_true (Int32.not_lt.mp h2)
          have e15 : n = 15 := by
            by_cases e : n < 15
            · exact absurd ⟨h1, ⟨Int32.not_lt.mp h2, h3⟩, e⟩ h
            · omega
          have hn1 : (15 ≤ nI n) = True := by rw [e15]; decide
          have hn3 : (nI n < 15) = False := by rw [e15]; decide
          simp +decide only [e_95_0, e_95_1, e_95_4, e_95_5, e_95_8, e_95_11, e_95_13, e_95_14, e_95_15, e_95_18, e_95_19, e_95_22, e_95_25, e_95_27, e_95_28, e_95_29, e_95_32, e_95_35, e_95_38, e_95_40, e_95_41, e_95_42, e_95_45, e_95_46, e_95_47, e_95_50, ↓reduceIte, Int32.reduceAdd, Int32.reduceSub, an_0, an_1, an_2, an_3, an_4, an_5, tc_0, tc_1, tc_2, tc_3, tc_4, tc_5, tc_6, tc_7, tc_8, tc_9, tc_10, tc_11, tc_12, tc_13, tc_14, tc_15, tc_16, tc_17, tc_18, tc_19, tc_20, tc_21, tc_22, tc_23, tc_24, tc_25, tc_26, tc_27, tc_28, tc_29, tc_30, tc_31, tc_32, lcl_none, lcl_int, lcl_ref, lcl_null, lcl_long, okR_nil, okR_int, okR_ref, okR_null, okR_long, pushR_some, pushR_none, va_rf_some, va_rf_none, true_and, and_true, true_implies, false_implies, not_true_eq_false, not_false_eq_true, implies_true, bI_eq0, bI_eq1, bI_01, Classical.not_not, or_em, false_and, and_false, hS.1, hS.2.1, hS.2.2.1, hS.2.2.2.1, kT_0, kT_1, kT_2, kT_15, kT_16, kT_17, kT_18, kT_19, kT_80, kT_81, kT_82, kT_89, kT_90, kT_91, kT_92, kT_93, kT_94, kT_95, kT_96, kT_97, kT_98, kT_99, kT_100, kT_101, nT_2, nT_16, nT_17, nT_19, nT_81, nT_82, nT_90, nT_91, nT_94, nT_95, nT_97, nT_98, nT_100, nT_101, rT_0_0, rT_0_3, rT_0_4, rT_0_5, rT_0_6, rT_0_7, rT_0_8, rT_0_9, rT_0_10, rT_1_0, rT_15_0, rT_15_1, rT_18_0, rT_80_0, rT_80_1, rT_89_0, rT_89_1, rT_93_6, rT_93_7, rT_96_0, rT_96_1, rT_99_0, rT_99_1, chS1, chK, chR7, chK7, chN7, chR8, chK8, chN8, chR9, chK9, chN9, chR10, chK10, chN10, chR11, chK11, chN11, c_hasSub (d := 1) (by decide), b_2 (Nat.le_refl 1), e_2_0, e_2_1, e_2_4, e_2_6, e_2_9, e_2_10, e_2_13, e_2_14, a2, h89, hn1, hn3, h1', h2', h3', h4', wrV]
        · have h3' : (w ≤ 999999) = False := eq_false h3
          have h4' : (0 ≤ w ∧ w ≤ 999999) = False := eq_false (fun z => h3 z.2)
          simp +decide only [e_95_0, e_95_1, e_95_4, e_95_5, e_95_8, e_95_11, e_95_13, e_95_14, e_95_15, e_95_18, e_95_19, e_95_22, e_95_25, e_95_27, e_95_28, e_95_29, e_95_32, e_95_35, e_95_38, e_95_40, e_95_41, e_95_42, e_95_45, e_95_46, e_95_47, e_95_50, ↓reduceIte, Int32.reduceAdd, Int32.reduceSub, an_0, an_1, an_2, an_3, an_4, an_5, tc_0, tc_1, tc_2, tc_3, tc_4, tc_5, tc_6, tc_7, tc_8, tc_9, tc_10, tc_11, tc_12, tc_13, tc_14, tc_15, tc_16, tc_17, tc_18, tc_19, tc_20, tc_21, tc_22, tc_23, tc_24, tc_25, tc_26, tc_27, tc_28, tc_29, tc_30, tc_31, tc_32, lcl_none, lcl_int, lcl_ref, lcl_null, lcl_long, okR_nil, okR_int, okR_ref, okR_null, okR_long, pushR_some, pushR_none, va_rf_some, va_rf_none, true_and, and_true, true_implies, false_implies, not_true_eq_false, not_false_eq_true, implies_true, bI_eq0, bI_eq1, bI_01, Classical.not_not, or_em, false_and, and_false, hS.1, hS.2.1, hS.2.2.1, hS.2.2.2.1, kT_0, kT_1, kT_2, kT_15, kT_16, kT_17, kT_18, kT_19, kT_80, kT_81, kT_82, kT_89, kT_90, kT_91, kT_92, kT_93, kT_94, kT_95, kT_96, kT_97, kT_98, kT_99, kT_100, kT_101, nT_2, nT_16, nT_17, nT_19, nT_81, nT_82, nT_90, nT_91, nT_94, nT_95, nT_97, nT_98, nT_100, nT_101, rT_0_0, rT_0_3, rT_0_4, rT_0_5, rT_0_6, rT_0_7, rT_0_8, rT_0_9, rT_0_10, rT_1_0, rT_15_0, rT_15_1, rT_18_0, rT_80_0, rT_80_1, rT_89_0, rT_89_1, rT_93_6, rT_93_7, rT_96_0, rT_96_1, rT_99_0, rT_99_1, chS1, chK, chR7, chK7, chN7, chR8, chK8, chN8, chR9, chK9, chN9, chR10, chK10, chN10, chR11, chK11, chN11, c_hasSub (d := 1) (by decide), a2, h1', h2', h3', h4', wrV]
    · have h1' : (0 ≤ s ∧ s < nI P) = False := eq_false h1
      simp +decide only [e_95_0, e_95_1, e_95_4, e_95_5, e_95_8, e_95_11, e_95_13, e_95_14, e_95_15, e_95_18, e_95_19, e_95_22, e_95_25, e_95_27, e_95_28, e_95_29, e_95_32, e_95_35, e_95_38, e_95_40, e_95_41, e_95_42, e_95_45, e_95_46, e_95_47, e_95_50, ↓reduceIte, Int32.reduceAdd, Int32.reduceSub, an_0, an_1, an_2, an_3, an_4, an_5, tc_0, tc_1, tc_2, tc_3, tc_4, tc_5, tc_6, tc_7, tc_8, tc_9, tc_10, tc_11, tc_12, tc_13, tc_14, tc_15, tc_16, tc_17, tc_18, tc_19, tc_20, tc_21, tc_22, tc_23, tc_24, tc_25, tc_26, tc_27, tc_28, tc_29, tc_30, tc_31, tc_32, lcl_none, lcl_int, lcl_ref, lcl_null, lcl_long, okR_nil, okR_int, okR_ref, okR_null, okR_long, pushR_some, pushR_none, va_rf_some, va_rf_none, true_and, and_true, true_implies, false_implies, not_true_eq_false, not_false_eq_true, implies_true, bI_eq0, bI_eq1, bI_01, Classical.not_not, or_em, false_and, and_false, hS.1, hS.2.1, hS.2.2.1, hS.2.2.2.1, kT_0, kT_1, kT_2, kT_15, kT_16, kT_17, kT_18, kT_19, kT_80, kT_81, kT_82, kT_89, kT_90, kT_91, kT_92, kT_93, kT_94, kT_95, kT_96, kT_97, kT_98, kT_99, kT_100, kT_101, nT_2, nT_16, nT_17, nT_19, nT_81, nT_82, nT_90, nT_91, nT_94, nT_95, nT_97, nT_98, nT_100, nT_101, rT_0_0, rT_0_3, rT_0_4, rT_0_5, rT_0_6, rT_0_7, rT_0_8, rT_0_9, rT_0_10, rT_1_0, rT_15_0, rT_15_1, rT_18_0, rT_80_0, rT_80_1, rT_89_0, rT_89_1, rT_93_6, rT_93_7, rT_96_0, rT_96_1, rT_99_0, rT_99_1, chS1, chK, chR7, chK7, chN7, chR8, chK8, chN8, chR9, chK9, chN9, chR10, chK10, chN10, chR11, chK11, chN11, c_hasSub (d := 1) (by decide), a2, h1', wrV]
  · intro hd hM
    have hy : (0 ≤ s ∧ s ≤ mI M 102 17 - 1) = (0 ≤ s ∧ s < nI P) := by rw [hM.1.1.2.1, iP, ix_pred hP]
    have h29 : mI M 102 29 = nI n := hM.1.2.1.2.2.2.2.trans hn
    rw [b_174 hd]
    by_cases h1 : 0 ≤ s ∧ s < nI P
    · have h1' : (0 ≤ s ∧ s < nI P) = True := eq_true h1
      by_cases h2 : 0 ≤ w ∧ w ≤ 999999
      · have h2' : (0 ≤ w ∧ w ≤ 999999) = True := eq_true h2
        have e15 : n = 15 := by
          by_cases e : n < 15
          · exact absurd ⟨h1, h2, e⟩ h
          · omega
        have hn1 : (nI n = 15) = True := by rw [e15]; exact eq_true rfl
        simp +decide only [e_174_0, e_174_1, e_174_2, e_174_5, e_174_8, e_174_10, e_174_11, e_174_12, e_174_13, e_174_15, e_174_18, e_174_21, e_174_23, e_174_24, e_174_25, e_174_28, e_174_30, e_174_33, e_174_35, e_174_36, e_174_37, e_174_40, e_174_41, e_174_42, e_174_45, e_174_46, e_174_47, e_174_48, e_174_49, e_174_52, e_174_53, e_174_54, e_174_57, e_174_58, e_174_59, e_174_60, e_174_61, e_174_62, e_174_63, e_174_63r, e_174_64, e_174_67, e_174_68, e_174_69, e_174_72, e_174_73, e_174_76, ↓reduceIte, Int32.reduceAdd, Int32.reduceSub, an_0, an_1, an_2, an_3, an_4, an_5, tc_0, tc_1, tc_2, tc_3, tc_4, tc_5, tc_6, tc_7, tc_8, tc_9, tc_10, tc_11, tc_12, tc_13, tc_14, tc_15, tc_16, tc_17, tc_18, tc_19, tc_20, tc_21, tc_22, tc_23, tc_24, tc_25, tc_26, tc_27, tc_28, tc_29, tc_30, tc_31, tc_32, lcl_none, lcl_int, lcl_ref, lcl_null, lcl_long, okR_nil, okR_int, okR_ref, okR_null, okR_long, pushR_some, pushR_none, va_rf_some, va_rf_none, true_and, and_true, true_implies, false_implies, not_true_eq_false, not_false_eq_true, implies_true, bI_eq0, bI_eq1, bI_01, Classical.not_not, or_em, false_and, and_false, hS.1, hS.2.1, hS.2.2.1, hS.2.2.2.1, kT_102, kT_103, kT_104, kT_105, kT_106, kT_107, kT_108, kT_109, kT_110, kT_111, kT_112, kT_113, kT_114, kT_115, kT_116, kT_117, kT_118, kT_119, kT_120, nT_103, nT_104, nT_105, nT_106, nT_107, nT_108, nT_109, nT_110, nT_111, nT_112, nT_113, nT_114, nT_115, nT_116, nT_117, nT_118, nT_119, nT_120, rT_102_1, rT_102_12, rT_102_13, rT_102_14, rT_102_18, rT_102_19, rT_102_20, rT_102_21, rT_102_22, rT_102_23, rT_102_25, rT_102_26, rT_102_27, rT_102_30, rT_102_31, rT_102_32, rT_102_33, rT_102_34, c_isOneM (d := 2) (Nat.le_refl 2) hS, c_in (d := 2) (by decide), hy, h29, hn1, h1', h2', wrV]
      · have h2' : (0 ≤ w ∧ w ≤ 999999) = False := eq_false h2
        simp +decide only [e_174_0, e_174_1, e_174_2, e_174_5, e_174_8, e_174_10, e_174_11, e_174_12, e_174_13, e_174_15, e_174_18, e_174_21, e_174_23, e_174_24, e_174_25, e_174_28, e_174_30, e_174_33, e_174_35, e_174_36, e_174_37, e_174_40, e_174_41, e_174_42, e_174_45, e_174_46, e_174_47, e_174_48, e_174_49, e_174_52, e_174_53, e_174_54, e_174_57, e_174_58, e_174_59, e_174_60, e_174_61, e_174_62, e_174_63, e_174_63r, e_174_64, e_174_67, e_174_68, e_174_69, e_174_72, e_174_73, e_174_76, ↓reduceIte, Int32.reduceAdd, Int32.reduceSub, an_0, an_1, an_2, an_3, an_4, an_5, tc_0, tc_1, tc_2, tc_3, tc_4, tc_5, tc_6, tc_7, tc_8, tc_9, tc_10, tc_11, tc_12, tc_13, tc_14, tc_15, tc_16, tc_17, tc_18, tc_19, tc_20, tc_21, tc_22, tc_23, tc_24, tc_25, tc_26, tc_27, tc_28, tc_29, tc_30, tc_31, tc_32, lcl_none, lcl_int, lcl_ref, lcl_null, lcl_long, okR_nil, okR_int, okR_ref, okR_null, okR_long, pushR_some, pushR_none, va_rf_some, va_rf_none, true_and, and_true, true_implies, false_implies, not_true_eq_false, not_false_eq_true, implies_true, bI_eq0, bI_eq1, bI_01, Classical.not_not, or_em, false_and, and_false, hS.1, hS.2.1, hS.2.2.1, hS.2.2.2.1, kT_102, kT_103, kT_104, kT_105, kT_106, kT_107, kT_108, kT_109, kT_110, kT_111, kT_112, kT_113, kT_114, kT_115, kT_116, kT_117, kT_118, kT_119, kT_120, nT_103, nT_104, nT_105, nT_106, nT_107, nT_108, nT_109, nT_110, nT_111, nT_112, nT_113, nT_114, nT_115, nT_116, nT_117, nT_118, nT_119, nT_120, rT_102_1, rT_102_12, rT_102_13, rT_102_14, rT_102_18, rT_102_19, rT_102_20, rT_102_21, rT_102_22, rT_102_23, rT_102_25, rT_102_26, rT_102_27, rT_102_30, rT_102_31, rT_102_32, rT_102_33, rT_102_34, c_isOneM (d := 2) (Nat.le_refl 2) hS, c_in (d := 2) (by decide), hy, h1', h2', wrV]
    · have h1' : (0 ≤ s ∧ s < nI P) = False := eq_false h1
      simp +decide only [e_174_0, e_174_1, e_174_2, e_174_5, e_174_8, e_174_10, e_174_11, e_174_12, e_174_13, e_174_15, e_174_18, e_174_21, e_174_23, e_174_24, e_174_25, e_174_28, e_174_30, e_174_33, e_174_35, e_174_36, e_174_37, e_174_40, e_174_41, e_174_42, e_174_45, e_174_46, e_174_47, e_174_48, e_174_49, e_174_52, e_174_53, e_174_54, e_174_57, e_174_58, e_174_59, e_174_60, e_174_61, e_174_62, e_174_63, e_174_63r, e_174_64, e_174_67, e_174_68, e_174_69, e_174_72, e_174_73, e_174_76, ↓reduceIte, Int32.reduceAdd, Int32.reduceSub, an_0, an_1, an_2, an_3, an_4, an_5, tc_0, tc_1, tc_2, tc_3, tc_4, tc_5, tc_6, tc_7, tc_8, tc_9, tc_10, tc_11, tc_12, tc_13, tc_14, tc_15, tc_16, tc_17, tc_18, tc_19, tc_20, tc_21, tc_22, tc_23, tc_24, tc_25, tc_26, tc_27, tc_28, tc_29, tc_30, tc_31, tc_32, lcl_none, lcl_int, lcl_ref, lcl_null, lcl_long, okR_nil, okR_int, okR_ref, okR_null, okR_long, pushR_some, pushR_none, va_rf_some, va_rf_none, true_and, and_true, true_implies, false_implies, not_true_eq_false, not_false_eq_true, implies_true, bI_eq0, bI_eq1, bI_01, Classical.not_not, or_em, false_and, and_false, hS.1, hS.2.1, hS.2.2.1, hS.2.2.2.1, kT_102, kT_103, kT_104, kT_105, kT_106, kT_107, kT_108, kT_109, kT_110, kT_111, kT_112, kT_113, kT_114, kT_115, kT_116, kT_117, kT_118, kT_119, kT_120, nT_103, nT_104, nT_105, nT_106, nT_107, nT_108, nT_109, nT_110, nT_111, nT_112, nT_113, nT_114, nT_115, nT_116, nT_117, nT_118, nT_119, nT_120, rT_102_1, rT_102_12, rT_102_13, rT_102_14, rT_102_18, rT_102_19, rT_102_20, rT_102_21, rT_102_22, rT_102_23, rT_102_25, rT_102_26, rT_102_27, rT_102_30, rT_102_31, rT_102_32, rT_102_33, rT_102_34, c_isOneM (d := 2) (Nat.le_refl 2) hS, hy, h1', wrV]
theorem op_write (s w : Int32) (M : ab_M) (hM : Rel M) : lwStep Rel 95 174 [s, w] M := by
  obtain ⟨b, σ, L, P, hS, hC, hMo, hI⟩ := hM
  obtain ⟨hL, hP, iL, iP⟩ := IV_n hI
  obtain ⟨n, hn2, hn, -⟩ := hI.2.2.2.1
  by_cases hu : (0 ≤ s ∧ s < nI P) ∧ (0 ≤ w ∧ w ≤ 999999) ∧ n < 15
  · obtain ⟨hs, hw, hn3⟩ := hu
    obtain ⟨j, hj, rfl⟩ := of_ix (by omega) hs
    exact GT hS hMo (IV_wr hI hn hn3 hj) (nI (n + 1)) (C_write1 (by decide) hS hC hI hn hn3 j hj hw) (fun M1 hS1 hM1 => M_write1 (by decide) hS1 hM1 hI hn hn3 j hj hw)
  · refine RO hS hC hMo hI (wrV P n s w) ?_ (fun M1 hS1 hM1 => ?_)
    · show EvD 20 95 [.ref 0, .int s, .int w] M _
      rw [(write0 hS hI hn hn2 hu).1 (by decide) hC]
      exact ⟨rfl, hS, fun a _ => rfl⟩
    · show EvD 20 174 [.ref 102, .int s, .int w] M1 _
      rw [(write0 hS1 hI hn hn2 hu).2 (by decide) hM1]
      exact ⟨rfl, hS1, fun a _ => rfl⟩
