/-! year -/
def yrG (P a : Nat) (σ : Sg) : Sg := uS σ (yrS (σ 5) (fun k => payS σ (σ 1 1) P (nI k) a) P)
def itG (f : Sg → Sg) (σ : Sg) : Nat → Sg
  | 0 => σ
  | i + 1 => f (itG f σ i)
theorem yrG_al {P a : Nat} {σ : Sg} (hP : P ≤ 5) : yrG P a σ 5 10 = σ 5 10 := by
  unfold yrG yrS
  rw [uS_5, upS_ne (by decide), upS_ne (by decide), upS_ne (by decide), paP_ge (by omega)]
theorem IV_yrG {L P a : Nat} {σ : Sg} (hI : IV L P σ) : IV L P (yrG P a σ) := IV_uS hI (SI_yr hI.2.2.2.2.2.2.2.1 (IV_n hI).2.1)
theorem IV_pu {L P n : Nat} {σ : Sg} (h : IV L P σ) (hn : σ 0 6 = nI n) (hn2 : n ≤ 20) : IV L P (pu σ n) := by
  have e : uS (pu σ n) (σ 5) = pu σ n := by
    funext j
    by_cases h5 : j = 5
    · rw [h5, uS_5, pu_ne (by decide) (by decide)]
    · rw [uS_ne h5]
  have h2 := IV_now (S := σ 5) h hn hn2 h.2.2.2.2.2.2.2.1
  rw [e] at h2
  exact h2
theorem IV_al {L P : Nat} {σ : Sg} (hI : IV L P σ) : ∃ a, a < 32 ∧ a < 2 ^ L ∧ σ 5 10 = nI a := by
  obtain ⟨a, ha, e⟩ := hI.2.2.2.2.2.2.2.1.2.2.2
  exact ⟨a, Nat.lt_of_lt_of_le ha (Nat.pow_le_pow_right (by decide) (IV_n hI).1), ha, e⟩
theorem itY {L P a : Nat} {σ : Sg} (hI : IV L P σ) (ha : σ 5 10 = nI a) : ∀ i, IV L P (itG (yrG P a) σ i) ∧ itG (yrG P a) σ i 5 10 = nI a := by
  intro i
  induction i with
  | zero => exact ⟨hI, ha⟩
  | succ i ih => exact ⟨IV_yrG ih.1, by rw [show itG (yrG P a) σ (i + 1) = yrG P a (itG (yrG P a) σ i) from rfl, yrG_al (IV_n hI).2.1]; exact ih.2⟩
theorem L_yearC {L P a Y : Nat} {b : Bool} {σ : Sg} {M0 : ab_M} {Q : ab_Q} (hI : IV L P σ) (ha : σ 5 10 = nI a) (ha2 : a < 32) (hY : Y ≤ 30) (hQ : ∀ o M1, Sh b M1 → frC M0 M1 → RC b M1 (itG (yrG P a) σ Y) → Ev 4 79 40 [some (.ref 0), some (.int (nI Y)), some (.int 0), o] [] M1 Q) : ∀ m i M, i + m = Y → Sh b M → frC M0 M → RC b M (itG (yrG P a) σ i) → Ev 4 79 25 [some (.ref 0), some (.int (nI Y)), some (.int 0), some (.int (nI i))] [] M Q := by
  intro m
  induction m with
  | zero =>
    intro i M hi hS hf hC
    have h1 : (nI Y ≤ nI i) = True := by rw [nI_leE (by omega) (by omega)]; exact eq_true (by omega)
    rw [e_79_25]
    simp +decide only [e_79_26, e_79_27, ↓reduceIte, Int32.reduceAdd, Int32.reduceSub, an_0, an_1, an_2, an_3, an_4, an_5, tc_0, tc_1, tc_2, tc_3, tc_4, tc_5, tc_6, tc_7, tc_8, tc_9, tc_10, tc_11, tc_12, tc_13, tc_14, tc_15, tc_16, tc_17, tc_18, tc_19, tc_20, tc_21, tc_22, tc_23, tc_24, tc_25, tc_26, tc_27, tc_28, tc_29, tc_30, tc_31, tc_32, lcl_none, lcl_int, lcl_ref, lcl_null, lcl_long, okR_nil, okR_int, okR_ref, okR_null, okR_long, pushR_some, pushR_none, va_rf_some, va_rf_none, true_and, and_true, true_implies, false_implies, not_true_eq_false, not_false_eq_true, implies_true, bI_eq0, bI_eq1, bI_01, Classical.not_not, or_em, false_and, and_false, h1]
    rw [show i = Y by omega] at hC ⊢
    exact hQ _ M hS hf hC
  | succ m ih =>
    intro i M hi hS hf hC
    have h1 : (nI Y ≤ nI i) = False := by rw [nI_leE (by omega) (by omega)]; exact eq_false (by omega)
    obtain ⟨hIi, hai⟩ := itY hI ha i
    rw [e_79_25]
    simp +decide only [e_79_26, e_79_27, e_79_30, e_79_31, ↓reduceIte, Int32.reduceAdd, Int32.reduceSub, an_0, an_1, an_2, an_3, an_4, an_5, tc_0, tc_1, tc_2, tc_3, tc_4, tc_5, tc_6, tc_7, tc_8, tc_9, tc_10, tc_11, tc_12, tc_13, tc_14, tc_15, tc_16, tc_17, tc_18, tc_19, tc_20, tc_21, tc_22, tc_23, tc_24, tc_25, tc_26, tc_27, tc_28, tc_29, tc_30, tc_31, tc_32, lcl_none, lcl_int, lcl_ref, lcl_null, lcl_long, okR_nil, okR_int, okR_ref, okR_null, okR_long, pushR_some, pushR_none, va_rf_some, va_rf_none, true_and, and_true, true_implies, false_implies, not_true_eq_false, not_false_eq_true, implies_true, bI_eq0, bI_eq1, bI_01, Classical.not_not, or_em, false_and, and_false, hS.1, hS.2.1, hS.2.2.1, hS.2.2.2.1, kT_0, kT_1, kT_2, kT_15, kT_16, kT_17, kT_18, kT_19, kT_80, kT_81, kT_82, kT_89, kT_90, kT_91, kT_92, kT_93, kT_94, kT_95, kT_96, kT_97, kT_98, kT_99, kT_100, kT_101, nT_2, nT_16, nT_17, nT_19, nT_81, nT_82, nT_90, nT_91, nT_94, nT_95, nT_97, nT_98, nT_100, nT_101, rT_0_0, rT_0_3, rT_0_4, rT_0_5, rT_0_6, rT_0_7, rT_0_8, rT_0_9, rT_0_10, rT_1_0, rT_15_0, rT_15_1, rT_18_0, rT_80_0, rT_80_1, rT_89_0, rT_89_1, rT_93_6, rT_93_7, rT_96_0, rT_96_1, rT_99_0, rT_99_1, h1]
    refine EvD_mono (C_pass (d := 4) (by decide) hS hC hIi hai ha2) ?_
    rintro r M' ⟨rfl, hS', hf', hC'⟩
    simp +decide only [e_79_34, e_79_37, ↓reduceIte, Int32.reduceAdd, Int32.reduceSub, an_0, an_1, an_2, an_3, an_4, an_5, tc_0, tc_1, tc_2, tc_3, tc_4, tc_5, tc_6, tc_7, tc_8, tc_9, tc_10, tc_11, tc_12, tc_13, tc_14, tc_15, tc_16, tc_17, tc_18, tc_19, tc_20, tc_21, tc_22, tc_23, tc_24, tc_25, tc_26, tc_27, tc_28, tc_29, tc_30, tc_31, tc_32, lcl_none, lcl_int, lcl_ref, lcl_null, lcl_long, okR_nil, okR_int, okR_ref, okR_null, okR_long, pushR_some, pushR_none, va_rf_some, va_rf_none, true_and, and_true, true_implies, false_implies, not_true_eq_false, not_false_eq_true, implies_true, bI_eq0, bI_eq1, bI_01, Classical.not_not, or_em, false_and, and_false, nI_1]
    exact ih (i + 1) M' (by omega) hS' (hf.tr hf') hC'
theorem L_yearM {L P a Y : Nat} {b : Bool} {σ : Sg} {M0 : ab_M} {Q : ab_Q} (hI : IV L P σ) (ha : σ 5 10 = nI a) (ha2 : a < 32) (hY : Y ≤ 30) (hQ : ∀ o M1, Sh b M1 → frM M0 M1 → RM M1 (itG (yrG P a) σ Y) → Ev 3 147 60 [some (.ref 102), some (.int (nI Y)), o] [] M1 Q) : ∀ m i M, i + m = Y → Sh b M → frM M0 M → RM M (itG (yrG P a) σ i) → Ev 3 147 45 [some (.ref 102), some (.int (nI Y)), some (.int (nI i))] [] M Q := by
  intro m
  induction m with
  | zero =>
    intro i M hi hS hf hC
    have h1 : (nI Y ≤ nI i) = True := by rw [nI_leE (by omega) (by omega)]; exact eq_true (by omega)
    rw [e_147_45]
    simp +decide only [e_147_46, e_147_47, ↓reduceIte, Int32.reduceAdd, Int32.reduceSub, an_0, an_1, an_2, an_3, an_4, an_5, tc_0, tc_1, tc_2, tc_3, tc_4, tc_5, tc_6, tc_7, tc_8, tc_9, tc_10, tc_11, tc_12, tc_13, tc_14, tc_15, tc_16, tc_17, tc_18, tc_19, tc_20, tc_21, tc_22, tc_23, tc_24, tc_25, tc_26, tc_27, tc_28, tc_29, tc_30, tc_31, tc_32, lcl_none, lcl_int, lcl_ref, lcl_null, lcl_long, okR_nil, okR_int, okR_ref, okR_null, okR_long, pushR_some, pushR_none, va_rf_some, va_rf_none, true_and, and_true, true_implies, false_implies, not_true_eq_false, not_false_eq_true, implies_true, bI_eq0, bI_eq1, bI_01, Classical.not_not, or_em, false_and, and_false, h1]
    rw [show i = Y by omega] at hC ⊢
    exact hQ _ M hS hf hC
  | succ m ih =>
    intro i M hi hS hf hC
    have h1 : (nI Y ≤ nI i) = False := by rw [nI_leE (by omega) (by omega)]; exact eq_false (by omega)
    obtain ⟨hIi, hai⟩ := itY hI ha i
    rw [e_147_45]
    simp +decide only [e_147_46, e_147_47, e_147_50, e_147_51, ↓reduceIte, Int32.reduceAdd, Int32.reduceSub, an_0, an_1, an_2, an_3, an_4, an_5, tc_0, tc_1, tc_2, tc_3, tc_4, tc_5, tc_6, tc_7, tc_8, tc_9, tc_10, tc_11, tc_12, tc_13, tc_14, tc_15, tc_16, tc_17, tc_18, tc_19, tc_20, tc_21, tc_22, tc_23, tc_24, tc_25, tc_26, tc_27, tc_28, tc_29, tc_30, tc_31, tc_32, lcl_none, lcl_int, lcl_ref, lcl_null, lcl_long, okR_nil, okR_int, okR_ref, okR_null, okR_long, pushR_some, pushR_none, va_rf_some, va_rf_none, true_and, and_true, true_implies, false_implies, not_true_eq_false, not_false_eq_true, implies_true, bI_eq0, bI_eq1, bI_01, Classical.not_not, or_em, false_and, and_false, hS.1, hS.2.1, hS.2.2.1, hS.2.2.2.1, kT_102, kT_103, kT_104, kT_105, kT_106, kT_107, kT_108, kT_109, kT_110, kT_111, kT_112, kT_113, kT_114, kT_115, kT_116, kT_117, kT_118, kT_119, kT_120, nT_103, nT_104, nT_105, nT_106, nT_107, nT_108, nT_109, nT_110, nT_111, nT_112, nT_113, nT_114, nT_115, nT_116, nT_117, nT_118, nT_119, nT_120, rT_102_1, rT_102_12, rT_102_13, rT_102_14, rT_102_18, rT_102_19, rT_102_20, rT_102_21, rT_102_22, rT_102_23, rT_102_25, rT_102_26, rT_102_27, rT_102_30, rT_102_31, rT_102_32, rT_102_33, rT_102_34, h1]
    refine EvD_mono (M_pass (d := 3) (by decide) hS hC hIi hai ha2) ?_
    rintro r M' ⟨rfl, hS', hf', hC'⟩
    simp +decide only [e_147_54, e_147_57, ↓reduceIte, Int32.reduceAdd, Int32.reduceSub, an_0, an_1, an_2, an_3, an_4, an_5, tc_0, tc_1, tc_2, tc_3, tc_4, tc_5, tc_6, tc_7, tc_8, tc_9, tc_10, tc_11, tc_12, tc_13, tc_14, tc_15, tc_16, tc_17, tc_18, tc_19, tc_20, tc_21, tc_22, tc_23, tc_24, tc_25, tc_26, tc_27, tc_28, tc_29, tc_30, tc_31, tc_32, lcl_none, lcl_int, lcl_ref, lcl_null, lcl_long, okR_nil, okR_int, okR_ref, okR_null, okR_long, pushR_some, pushR_none, va_rf_some, va_rf_none, true_and, and_true, true_implies, false_implies, not_true_eq_false, not_false_eq_true, implies_true, bI_eq0, bI_eq1, bI_01, Classical.not_not, or_em, false_and, and_false, nI_1]
    exact ih (i + 1) M' (by omega) hS' (hf.tr hf') hC'
theorem of_30 {y : Int32} (h : 1 ≤ y ∧ y ≤ 30) : ∃ Y, Y ≤ 30 ∧ y = nI Y := nI_of2 (M := 30) (n := 30) (by decide) (Int32.not_lt.mpr (Int32.le_trans (by decide) h.1)) h.2
theorem op_year (y : Int32) (M : ab_M) (hM : Rel M) : lwStep Rel 79 147 [y] M := by
  obtain ⟨b, σ, L, P, hS, hC, hMo, hI⟩ := hM
  obtain ⟨hL, hP, iL, iP⟩ := IV_n hI
  obtain ⟨n, hn2, hn⟩ := hI.2.2.1
  obtain ⟨a, ha2, -, ha⟩ := IV_al hI
  have hp13 : ∀ M1, RM M1 σ → mI M1 111 13 = σ 5 13 := fun M1 h => h.2.2.1 13 (by decide)
  have hp15 : ∀ M1, RM M1 σ → mI M1 102 15 = σ 0 2 := fun M1 h => h.1.1.2.2
  by_cases h1 : 1 ≤ y ∧ y ≤ 30
  · by_cases h2 : σ 0 2 = 0
    · refine RO hS hC hMo hI (-2000000003) ?_ (fun M1 hS1 hM1 => ?_)
      · show EvD 20 79 [.ref 0, .int y] M _
        rw [b_79 (by decide)]
        simp +decide only [e_79_0, e_79_1, e_79_2, e_79_5, e_79_6, e_79_7, e_79_10, e_79_11, ↓reduceIte, Int32.reduceAdd, Int32.reduceSub, an_0, an_1, an_2, an_3, an_4, an_5, tc_0, tc_1, tc_2, tc_3, tc_4, tc_5, tc_6, tc_7, tc_8, tc_9, tc_10, tc_11, tc_12, tc_13, tc_14, tc_15, tc_16, tc_17, tc_18, tc_19, tc_20, tc_21, tc_22, tc_23, tc_24, tc_25, tc_26, tc_27, tc_28, tc_29, tc_30, tc_31, tc_32, lcl_none, lcl_int, lcl_ref, lcl_null, lcl_long, okR_nil, okR_int, okR_ref, okR_null, okR_long, pushR_some, pushR_none, va_rf_some, va_rf_none, true_and, and_true, true_implies, false_implies, not_true_eq_false, not_false_eq_true, implies_true, bI_eq0, bI_eq1, bI_01, Classical.not_not, or_em, false_and, and_false, hS.1, hS.2.1, hS.2.2.1, hS.2.2.2.1, kT_0, kT_1, kT_2, kT_15, kT_16, kT_17, kT_18, kT_19, kT_80, kT_81, kT_82, kT_89, kT_90, kT_91, kT_92, kT_93, kT_94, kT_95, kT_96, kT_97, kT_98, kT_99, kT_100, kT_101, nT_2, nT_16, nT_17, nT_19, nT_81, nT_82, nT_90, nT_91, nT_94, nT_95, nT_97, nT_98, nT_100, nT_101, rT_0_0, rT_0_3, rT_0_4, rT_0_5, rT_0_6, rT_0_7, rT_0_8, rT_0_9, rT_0_10, rT_1_0, rT_15_0, rT_15_1, rT_18_0, rT_80_0, rT_80_1, rT_89_0, rT_89_1, rT_93_6, rT_93_7, rT_96_0, rT_96_1, rT_99_0, rT_99_1, c_refY (d := 4) (by decide) hS hC, reY, h1, h2, and_true]
        exact hS
      · show EvD 20 147 [.ref 102, .int y] M1 _
        rw [b_147 (by decide)]
        simp +decide only [e_147_0, e_147_1, e_147_2, e_147_4, e_147_7, e_147_10, e_147_12, e_147_13, e_147_14, e_147_17, e_147_20, e_147_22, ↓reduceIte, Int32.reduceAdd, Int32.reduceSub, an_0, an_1, an_2, an_3, an_4, an_5, tc_0, tc_1, tc_2, tc_3, tc_4, tc_5, tc_6, tc_7, tc_8, tc_9, tc_10, tc_11, tc_12, tc_13, tc_14, tc_15, tc_16, tc_17, tc_18, tc_19, tc_20, tc_21, tc_22, tc_23, tc_24, tc_25, tc_26, tc_27, tc_28, tc_29, tc_30, tc_31, tc_32, lcl_none, lcl_int, lcl_ref, lcl_null, lcl_long, okR_nil, okR_int, okR_ref, okR_null, okR_long, pushR_some, pushR_none, va_rf_some, va_rf_none, true_and, and_true, true_implies, false_implies, not_true_eq_false, not_false_eq_true, implies_true, bI_eq0, bI_eq1, bI_01, Classical.not_not, or_em, false_and, and_false, hS1.1, hS1.2.1, hS1.2.2.1, kT_102, kT_103, kT_104, kT_105, kT_106, kT_107, kT_108, kT_109, kT_110, kT_111, kT_112, kT_113, kT_114, kT_115, kT_116, kT_117, kT_118, kT_119, kT_120, nT_103, nT_104, nT_105, nT_106, nT_107, nT_108, nT_109, nT_110, nT_111, nT_112, nT_113, nT_114, nT_115, nT_116, nT_117, nT_118, nT_119, nT_120, rT_102_1, rT_102_12, rT_102_13, rT_102_14, rT_102_18, rT_102_19, rT_102_20, rT_102_21, rT_102_22, rT_102_23, rT_102_25, rT_102_26, rT_102_27, rT_102_30, rT_102_31, rT_102_32, rT_102_33, rT_102_34, c_in (d := 3) (by decide), hp15 M1 hM1, h1, h2, and_true]
        exact hS1
    · have h2' : (σ 0 2 = 0) = False := eq_false h2
      by_cases h3 : σ 5 13 ≤ 9000
      · obtain ⟨Y, hY, rfl⟩ := of_30 h1
        have h3' : (σ 5 13 ≤ 9000) = True := eq_true h3
        have hIp := IV_pu hI hn hn2
        have hap : pu σ n 5 10 = nI a := by rw [pu_ne (by decide) (by decide)]; exact ha
        obtain ⟨hIY, haY⟩ := itY hIp hap Y
        refine GT hS hMo hIY (suS (itG (yrG P a) (pu σ n) Y 5) P) ?_ (fun M1 hS1 hM1 => ?_)
        · show EvD 20 79 [.ref 0, .int (nI Y)] M _
          rw [b_79 (by decide)]
          simp +decide only [e_79_0, e_79_1, e_79_2, e_79_5, e_79_6, e_79_7, e_79_10, e_79_11, e_79_12, e_79_13, e_79_16, e_79_17, e_79_20, ↓reduceIte, Int32.reduceAdd, Int32.reduceSub, an_0, an_1, an_2, an_3, an_4, an_5, tc_0, tc_1, tc_2, tc_3, tc_4, tc_5, tc_6, tc_7, tc_8, tc_9, tc_10, tc_11, tc_12, tc_13, tc_14, tc_15, tc_16, tc_17, tc_18, tc_19, tc_20, tc_21, tc_22, tc_23, tc_24, tc_25, tc_26, tc_27, tc_28, tc_29, tc_30, tc_31, tc_32, lcl_none, lcl_int, lcl_ref, lcl_null, lcl_long, okR_nil, okR_int, okR_ref, okR_null, okR_long, pushR_some, pushR_none, va_rf_some, va_rf_none, true_and, and_true, true_implies, false_implies, not_true_eq_false, not_false_eq_true, implies_true, bI_eq0, bI_eq1, bI_01, Classical.not_not, or_em, false_and, and_false, hS.1, hS.2.1, hS.2.2.1, hS.2.2.2.1, kT_0, kT_1, kT_2, kT_15, kT_16, kT_17, kT_18, kT_19, kT_80, kT_81, kT_82, kT_89, kT_90, kT_91, kT_92, kT_93, kT_94, kT_95, kT_96, kT_97, kT_98, kT_99, kT_100, kT_101, nT_2, nT_16, nT_17, nT_19, nT_81, nT_82, nT_90, nT_91, nT_94, nT_95, nT_97, nT_98, nT_100, nT_101, rT_0_0, rT_0_3, rT_0_4, rT_0_5, rT_0_6, rT_0_7, rT_0_8, rT_0_9, rT_0_10, rT_1_0, rT_15_0, rT_15_1, rT_18_0, rT_80_0, rT_80_1, rT_89_0, rT_89_1, rT_93_6, rT_93_7, rT_96_0, rT_96_1, rT_99_0, rT_99_1, c_refY (d := 4) (by decide) hS hC, reY, h1, h2', h3', and_true]
          refine EvD_mono (C_remember (d := 4) (by decide) hS hC hn hn2) ?_
          rintro r M' ⟨rfl, hS', hC', hf⟩
          simp +decide only [e_79_23, e_79_24, ↓reduceIte, Int32.reduceAdd, Int32.reduceSub, an_0, an_1, an_2, an_3, an_4, an_5, tc_0, tc_1, tc_2, tc_3, tc_4, tc_5, tc_6, tc_7, tc_8, tc_9, tc_10, tc_11, tc_12, tc_13, tc_14, tc_15, tc_16, tc_17, tc_18, tc_19, tc_20, tc_21, tc_22, tc_23, tc_24, tc_25, tc_26, tc_27, tc_28, tc_29, tc_30, tc_31, tc_32, lcl_none, lcl_int, lcl_ref, lcl_null, lcl_long, okR_nil, okR_int, okR_ref, okR_null, okR_long, pushR_some, pushR_none, va_rf_some, va_rf_none, true_and, and_true, true_implies, false_implies, not_true_eq_false, not_false_eq_true, implies_true, bI_eq0, bI_eq1, bI_01, Classical.not_not, or_em, false_and, and_false]
          refine L_yearC hIp hap ha2 hY (fun o M1 hS1 hf1 hC1 => ?_) Y 0 M' (by omega) hS' hf hC'
          have hz := suS_z hP (fun k hk hk2 => hIY.2.2.2.2.2.2.2.1.1 k hk hk2)
          have hS := hS1
          simp +decide only [e_79_40, e_79_41, e_79_44, e_79_47, ↓reduceIte, Int32.reduceAdd, Int32.reduceSub, an_0, an_1, an_2, an_3, an_4, an_5, tc_0, tc_1, tc_2, tc_3, tc_4, tc_5, tc_6, tc_7, tc_8, tc_9, tc_10, tc_11, tc_12, tc_13, tc_14, tc_15, tc_16, tc_17, tc_18, tc_19, tc_20, tc_21, tc_22, tc_23, tc_24, tc_25, tc_26, tc_27, tc_28, tc_29, tc_30, tc_31, tc_32, lcl_none, lcl_int, lcl_ref, lcl_null, lcl_long, okR_nil, okR_int, okR_ref, okR_null, okR_long, pushR_some, pushR_none, va_rf_some, va_rf_none, true_and, and_true, true_implies, false_implies, not_true_eq_false, not_false_eq_true, implies_true, bI_eq0, bI_eq1, bI_01, Classical.not_not, or_em, false_and, and_false, hS.1, hS.2.1, hS.2.2.1, hS.2.2.2.1, kT_0, kT_1, kT_2, kT_15, kT_16, kT_17, kT_18, kT_19, kT_80, kT_81, kT_82, kT_89, kT_90, kT_91, kT_92, kT_93, kT_94, kT_95, kT_96, kT_97, kT_98, kT_99, kT_100, kT_101, nT_2, nT_16, nT_17, nT_19, nT_81, nT_82, nT_90, nT_91, nT_94, nT_95, nT_97, nT_98, nT_100, nT_101, rT_0_0, rT_0_3, rT_0_4, rT_0_5, rT_0_6, rT_0_7, rT_0_8, rT_0_9, rT_0_10, rT_1_0, rT_15_0, rT_15_1, rT_18_0, rT_80_0, rT_80_1, rT_89_0, rT_89_1, rT_93_6, rT_93_7, rT_96_0, rT_96_1, rT_99_0, rT_99_1, c_purC (d := 4) (by decide) hS hC1.2.2.1, hz]
          exact ⟨hS1, hf1, hC1⟩
        · show EvD 20 147 [.ref 102, .int (nI Y)] M1 _
          rw [b_147 (by decide)]
          simp +decide only [e_147_0, e_147_1, e_147_2, e_147_4, e_147_7, e_147_10, e_147_12, e_147_13, e_147_14, e_147_17, e_147_20, e_147_22, e_147_23, e_147_24, e_147_27, e_147_29, e_147_30, e_147_33, e_147_36, e_147_38, e_147_39, e_147_40, ↓reduceIte, Int32.reduceAdd, Int32.reduceSub, an_0, an_1, an_2, an_3, an_4, an_5, tc_0, tc_1, tc_2, tc_3, tc_4, tc_5, tc_6, tc_7, tc_8, tc_9, tc_10, tc_11, tc_12, tc_13, tc_14, tc_15, tc_16, tc_17, tc_18, tc_19, tc_20, tc_21, tc_22, tc_23, tc_24, tc_25, tc_26, tc_27, tc_28, tc_29, tc_30, tc_31, tc_32, lcl_none, lcl_int, lcl_ref, lcl_null, lcl_long, okR_nil, okR_int, okR_ref, okR_null, okR_long, pushR_some, pushR_none, va_rf_some, va_rf_none, true_and, and_true, true_implies, false_implies, not_true_eq_false, not_false_eq_true, implies_true, bI_eq0, bI_eq1, bI_01, Classical.not_not, or_em, false_and, and_false, hS1.1, hS1.2.1, hS1.2.2.1, kT_102, kT_103, kT_104, kT_105, kT_106, kT_107, kT_108, kT_109, kT_110, kT_111, kT_112, kT_113, kT_114, kT_115, kT_116, kT_117, kT_118, kT_119, kT_120, nT_103, nT_104, nT_105, nT_106, nT_107, nT_108, nT_109, nT_110, nT_111, nT_112, nT_113, nT_114, nT_115, nT_116, nT_117, nT_118, nT_119, nT_120, rT_102_1, rT_102_12, rT_102_13, rT_102_14, rT_102_18, rT_102_19, rT_102_20, rT_102_21, rT_102_22, rT_102_23, rT_102_25, rT_102_26, rT_102_27, rT_102_30, rT_102_31, rT_102_32, rT_102_33, rT_102_34, c_in (d := 3) (by decide), hp15 M1 hM1, hp13 M1 hM1, h1, h2', h3', and_true]
          refine EvD_mono (M_note (d := 3) (by decide) hS1 hM1 hn hn2) ?_
          rintro r M' ⟨rfl, hS', hM', hf⟩
          simp +decide only [e_147_43, e_147_44, ↓reduceIte, Int32.reduceAdd, Int32.reduceSub, an_0, an_1, an_2, an_3, an_4, an_5, tc_0, tc_1, tc_2, tc_3, tc_4, tc_5, tc_6, tc_7, tc_8, tc_9, tc_10, tc_11, tc_12, tc_13, tc_14, tc_15, tc_16, tc_17, tc_18, tc_19, tc_20, tc_21, tc_22, tc_23, tc_24, tc_25, tc_26, tc_27, tc_28, tc_29, tc_30, tc_31, tc_32, lcl_none, lcl_int, lcl_ref, lcl_null, lcl_long, okR_nil, okR_int, okR_ref, okR_null, okR_long, pushR_some, pushR_none, va_rf_some, va_rf_none, true_and, and_true, true_implies, false_implies, not_true_eq_false, not_false_eq_true, implies_true, bI_eq0, bI_eq1, bI_01, Classical.not_not, or_em, false_and, and_false]
          refine L_yearM hIp hap ha2 hY (fun o M2 hS2 hf1 hM2 => ?_) Y 0 M' (by omega) hS' hf hM'
          simp +decide only [e_147_60, e_147_61, e_147_64, ↓reduceIte, Int32.reduceAdd, Int32.reduceSub, an_0, an_1, an_2, an_3, an_4, an_5, tc_0, tc_1, tc_2, tc_3, tc_4, tc_5, tc_6, tc_7, tc_8, tc_9, tc_10, tc_11, tc_12, tc_13, tc_14, tc_15, tc_16, tc_17, tc_18, tc_19, tc_20, tc_21, tc_22, tc_23, tc_24, tc_25, tc_26, tc_27, tc_28, tc_29, tc_30, tc_31, tc_32, lcl_none, lcl_int, lcl_ref, lcl_null, lcl_long, okR_nil, okR_int, okR_ref, okR_null, okR_long, pushR_some, pushR_none, va_rf_some, va_rf_none, true_and, and_true, true_implies, false_implies, not_true_eq_false, not_false_eq_true, implies_true, bI_eq0, bI_eq1, bI_01, Classical.not_not, or_em, false_and, and_false, hS2.1, hS2.2.1, hS2.2.2.1, kT_102, kT_103, kT_104, kT_105, kT_106, kT_107, kT_108, kT_109, kT_110, kT_111, kT_112, kT_113, kT_114, kT_115, kT_116, kT_117, kT_118, kT_119, kT_120, nT_103, nT_104, nT_105, nT_106, nT_107, nT_108, nT_109, nT_110, nT_111, nT_112, nT_113, nT_114, nT_115, nT_116, nT_117, nT_118, nT_119, nT_120, rT_102_1, rT_102_12, rT_102_13, rT_102_14, rT_102_18, rT_102_19, rT_102_20, rT_102_21, rT_102_22, rT_102_23, rT_102_25, rT_102_26, rT_102_27, rT_102_30, rT_102_31, rT_102_32, rT_102_33, rT_102_34, c_purM (d := 3) (by decide) hS2 hM2 hIY]
          exact ⟨hS2, hf1, hM2⟩
      · have h3' : (σ 5 13 ≤ 9000) = False := eq_false h3
        refine RO hS hC hMo hI (-2000000004) ?_ (fun M1 hS1 hM1 => ?_)
        · show EvD 20 79 [.ref 0, .int y] M _
          rw [b_79 (by decide)]
          simp +decide only [e_79_0, e_79_1, e_79_2, e_79_5, e_79_6, e_79_7, e_79_10, e_79_11, ↓reduceIte, Int32.reduceAdd, Int32.reduceSub, an_0, an_1, an_2, an_3, an_4, an_5, tc_0, tc_1, tc_2, tc_3, tc_4, tc_5, tc_6, tc_7, tc_8, tc_9, tc_10, tc_11, tc_12, tc_13, tc_14, tc_15, tc_16, tc_17, tc_18, tc_19, tc_20, tc_21, tc_22, tc_23, tc_24, tc_25, tc_26, tc_27, tc_28, tc_29, tc_30, tc_31, tc_32, lcl_none, lcl_int, lcl_ref, lcl_null, lcl_long, okR_nil, okR_int, okR_ref, okR_null, okR_long, pushR_some, pushR_none, va_rf_some, va_rf_none, true_and, and_true, true_implies, false_implies, not_true_eq_false, not_false_eq_true, implies_true, bI_eq0, bI_eq1, bI_01, Classical.not_not, or_em, false_and, and_false, hS.1, hS.2.1, hS.2.2.1, hS.2.2.2.1, kT_0, kT_1, kT_2, kT_15, kT_16, kT_17, kT_18, kT_19, kT_80, kT_81, kT_82, kT_89, kT_90, kT_91, kT_92, kT_93, kT_94, kT_95, kT_96, kT_97, kT_98, kT_99, kT_100, kT_101, nT_2, nT_16, nT_17, nT_19, nT_81, nT_82, nT_90, nT_91, nT_94, nT_95, nT_97, nT_98, nT_100, nT_101, rT_0_0, rT_0_3, rT_0_4, rT_0_5, rT_0_6, rT_0_7, rT_0_8, rT_0_9, rT_0_10, rT_1_0, rT_15_0, rT_15_1, rT_18_0, rT_80_0, rT_80_1, rT_89_0, rT_89_1, rT_93_6, rT_93_7, rT_96_0, rT_96_1, rT_99_0, rT_99_1, c_refY (d := 4) (by decide) hS hC, reY, h1, h2', h3', and_true]
          exact hS
        · show EvD 20 147 [.ref 102, .int y] M1 _
          rw [b_147 (by decide)]
          simp +decide only [e_147_0, e_147_1, e_147_2, e_147_4, e_147_7, e_147_10, e_147_12, e_147_13, e_147_14, e_147_17, e_147_20, e_147_22, e_147_23, e_147_24, e_147_27, e_147_29, e_147_30, e_147_33, e_147_36, e_147_38, ↓reduceIte, Int32.reduceAdd, Int32.reduceSub, an_0, an_1, an_2, an_3, an_4, an_5, tc_0, tc_1, tc_2, tc_3, tc_4, tc_5, tc_6, tc_7, tc_8, tc_9, tc_10, tc_11, tc_12, tc_13, tc_14, tc_15, tc_16, tc_17, tc_18, tc_19, tc_20, tc_21, tc_22, tc_23, tc_24, tc_25, tc_26, tc_27, tc_28, tc_29, tc_30, tc_31, tc_32, lcl_none, lcl_int, lcl_ref, lcl_null, lcl_long, okR_nil, okR_int, okR_ref, okR_null, okR_long, pushR_some, pushR_none, va_rf_some, va_rf_none, true_and, and_true, true_implies, false_implies, not_true_eq_false, not_false_eq_true, implies_true, bI_eq0, bI_eq1, bI_01, Classical.not_not, or_em, false_and, and_false, hS1.1, hS1.2.1, hS1.2.2.1, kT_102, kT_103, kT_104, kT_105, kT_106, kT_107, kT_108, kT_109, kT_110, kT_111, kT_112, kT_113, kT_114, kT_115, kT_116, kT_117, kT_118, kT_119, kT_120, nT_103, nT_104, nT_105, nT_106, nT_107, nT_108, nT_109, nT_110, nT_111, nT_112, nT_113, nT_114, nT_115, nT_116, nT_117, nT_118, nT_119, nT_120, rT_102_1, rT_102_12, rT_102_13, rT_102_14, rT_102_18, rT_102_19, rT_102_20, rT_102_21, rT_102_22, rT_102_23, rT_102_25, rT_102_26, rT_102_27, rT_102_30, rT_102_31, rT_102_32, rT_102_33, rT_102_34, c_in (d := 3) (by decide), hp15 M1 hM1, hp13 M1 hM1, h1, h2', h3', and_true]
          exact hS1
  · have h1' : (1 ≤ y ∧ y ≤ 30) = False := eq_false h1
    refine RO hS hC hMo hI (-2000000002) ?_ (fun M1 hS1 hM1 => ?_)
    · show EvD 20 79 [.ref 0, .int y] M _
      rw [b_79 (by decide)]
      simp +decide only [e_79_0, e_79_1, e_79_2, e_79_5, e_79_6, e_79_7, e_79_10, e_79_11, ↓reduceIte, Int32.reduceAdd, Int32.reduceSub, an_0, an_1, an_2, an_3, an_4, an_5, tc_0, tc_1, tc_2, tc_3, tc_4, tc_5, tc_6, tc_7, tc_8, tc_9, tc_10, tc_11, tc_12, tc_13, tc_14, tc_15, tc_16, tc_17, tc_18, tc_19, tc_20, tc_21, tc_22, tc_23, tc_24, tc_25, tc_26, tc_27, tc_28, tc_29, tc_30, tc_31, tc_32, lcl_none, lcl_int, lcl_ref, lcl_null, lcl_long, okR_nil, okR_int, okR_ref, okR_null, okR_long, pushR_some, pushR_none, va_rf_some, va_rf_none, true_and, and_true, true_implies, false_implies, not_true_eq_false, not_false_eq_true, implies_true, bI_eq0, bI_eq1, bI_01, Classical.not_not, or_em, false_and, and_false, hS.1, hS.2.1, hS.2.2.1, hS.2.2.2.1, kT_0, kT_1, kT_2, kT_15, kT_16, kT_17, kT_18, kT_19, kT_80, kT_81, kT_82, kT_89, kT_90, kT_91, kT_92, kT_93, kT_94, kT_95, kT_96, kT_97, kT_98, kT_99, kT_100, kT_101, nT_2, nT_16, nT_17, nT_19, nT_81, nT_82, nT_90, nT_91, nT_94, nT_95, nT_97, nT_98, nT_100, nT_101, rT_0_0, rT_0_3, rT_0_4, rT_0_5, rT_0_6, rT_0_7, rT_0_8, rT_0_9, rT_0_10, rT_1_0, rT_15_0, rT_15_1, rT_18_0, rT_80_0, rT_80_1, rT_89_0, rT_89_1, rT_93_6, rT_93_7, rT_96_0, rT_96_1, rT_99_0, rT_99_1, c_refY (d := 4) (by decide) hS hC, reY, h1']
      exact hS
    · show EvD 20 147 [.ref 102, .int y] M1 _
      rw [b_147 (by decide)]
      simp +decide only [e_147_0, e_147_1, e_147_2, e_147_4, e_147_7, e_147_10, e_147_12, ↓reduceIte, Int32.reduceAdd, Int32.reduceSub, an_0, an_1, an_2, an_3, an_4, an_5, tc_0, tc_1, tc_2, tc_3, tc_4, tc_5, tc_6, tc_7, tc_8, tc_9, tc_10, tc_11, tc_12, tc_13, tc_14, tc_15, tc_16, tc_17, tc_18, tc_19, tc_20, tc_21, tc_22, tc_23, tc_24, tc_25, tc_26, tc_27, tc_28, tc_29, tc_30, tc_31, tc_32, lcl_none, lcl_int, lcl_ref, lcl_null, lcl_long, okR_nil, okR_int, okR_ref, okR_null, okR_long, pushR_some, pushR_none, va_rf_some, va_rf_none, true_and, and_true, true_implies, false_implies, not_true_eq_false, not_false_eq_true, implies_true, bI_eq0, bI_eq1, bI_01, Classical.not_not, or_em, false_and, and_false, hS1.1, hS1.2.1, hS1.2.2.1, kT_102, kT_103, kT_104, kT_105, kT_106, kT_107, kT_108, kT_109, kT_110, kT_111, kT_112, kT_113, kT_114, kT_115, kT_116, kT_117, kT_118, kT_119, kT_120, nT_103, nT_104, nT_105, nT_106, nT_107, nT_108, nT_109, nT_110, nT_111, nT_112, nT_113, nT_114, nT_115, nT_116, nT_117, nT_118, nT_119, nT_120, rT_102_1, rT_102_12, rT_102_13, rT_102_14, rT_102_18, rT_102_19, rT_102_20, rT_102_21, rT_102_22, rT_102_23, rT_102_25, rT_102_26, rT_102_27, rT_102_30, rT_102_31, rT_102_32, rT_102_33, rT_102_34, c_in (d := 3) (by decide), h1']
      exact hS1
