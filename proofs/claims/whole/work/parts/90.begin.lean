/-! a tontine begins, the class -/
theorem L_b1 {m : Nat} {b : Bool} {M0 : ab_M} {Q : ab_Q} (hm : m ≤ 5) (h6 : mI M0 (chL b) 6 = nI m) (hQ : ∀ M1, Sh b M1 → (∀ a, a ≠ 16 → mI M1 a = mI M0 a) → (∀ k, k < 5 → mI M1 16 k = if k < m then mI M0 (chL b + 4) k else 0) → Ev 0 38 37 [some (.ref 15), some (.ref (chL b)), some (.int 5)] [] M1 Q) : ∀ q i M, i + q = 5 → Sh b M → (∀ a, a ≠ 16 → mI M a = mI M0 a) → (∀ k, k < i → mI M 16 k = if k < m then mI M0 (chL b + 4) k else 0) → Ev 0 38 2 [some (.ref 15), some (.ref (chL b)), some (.int (nI i))] [] M Q := by
  have hb := chL_lt b
  intro q
  induction q with
  | zero =>
    intro i M hi hS hf hw
    have h1 : (5 ≤ nI i) = True := by rw [show i = 5 by omega]; exact eq_true (by decide)
    rw [e_38_2]
    simp +decide only [e_38_3, e_38_4, ↓reduceIte, Int32.reduceAdd, Int32.reduceSub, an_0, an_1, an_2, an_3, an_4, an_5, tc_0, tc_1, tc_2, tc_3, tc_4, tc_5, tc_6, tc_7, tc_8, tc_9, tc_10, tc_11, tc_12, tc_13, tc_14, tc_15, tc_16, tc_17, tc_18, tc_19, tc_20, tc_21, tc_22, tc_23, tc_24, tc_25, tc_26, tc_27, tc_28, tc_29, tc_30, tc_31, tc_32, lcl_none, lcl_int, lcl_ref, lcl_null, lcl_long, okR_nil, okR_int, okR_ref, okR_null, okR_long, pushR_some, pushR_none, va_rf_some, va_rf_none, true_and, and_true, true_implies, false_implies, not_true_eq_false, not_false_eq_true, implies_true, bI_eq0, bI_eq1, bI_01, Classical.not_not, or_em, false_and, and_false, h1]
    rw [show i = 5 by omega] at hw ⊢
    exact hQ M hS hf hw
  | succ q ih =>
    intro i M hi hS hf hw
    have h1 : (5 ≤ nI i) = False := by rw [show (5 : Int32) = nI 5 from rfl, nI_leE (by decide) (by omega)]; exact eq_false (by omega)
    have e6 : mI M (chL b) 6 = nI m := by rw [hf _ (by omega)]; exact h6
    have hcl : (nI i).toNatClampNeg = i := nI_clamp (by omega)
    have hin : inX (nI i) 5 = True := eq_true (inX_nI (by decide) (by omega))
    rw [e_38_2]
    by_cases h : i < m
    · have h2 : (nI m ≤ nI i) = False := by rw [nI_leE (by omega) (by omega)]; exact eq_false (by omega)
      have e4 : mI M (chL b + 4) i = mI M0 (chL b + 4) i := by rw [hf _ (by omega)]
      simp +decide only [e_38_3, e_38_4, e_38_7, e_38_8, e_38_11, e_38_12, e_38_13, e_38_14, e_38_17, e_38_20, e_38_21, e_38_24, e_38_25, e_38_26, e_38_29, e_38_30, e_38_31, e_38_34, ↓reduceIte, Int32.reduceAdd, Int32.reduceSub, an_0, an_1, an_2, an_3, an_4, an_5, tc_0, tc_1, tc_2, tc_3, tc_4, tc_5, tc_6, tc_7, tc_8, tc_9, tc_10, tc_11, tc_12, tc_13, tc_14, tc_15, tc_16, tc_17, tc_18, tc_19, tc_20, tc_21, tc_22, tc_23, tc_24, tc_25, tc_26, tc_27, tc_28, tc_29, tc_30, tc_31, tc_32, lcl_none, lcl_int, lcl_ref, lcl_null, lcl_long, okR_nil, okR_int, okR_ref, okR_null, okR_long, pushR_some, pushR_none, va_rf_some, va_rf_none, true_and, and_true, true_implies, false_implies, not_true_eq_false, not_false_eq_true, implies_true, bI_eq0, bI_eq1, bI_01, Classical.not_not, or_em, false_and, and_false, hS.1, hS.2.1, hS.2.2.1, hS.2.2.2.1, kT_0, kT_1, kT_2, kT_15, kT_16, kT_17, kT_18, kT_19, kT_80, kT_81, kT_82, kT_89, kT_90, kT_91, kT_92, kT_93, kT_94, kT_95, kT_96, kT_97, kT_98, kT_99, kT_100, kT_101, nT_2, nT_16, nT_17, nT_19, nT_81, nT_82, nT_90, nT_91, nT_94, nT_95, nT_97, nT_98, nT_100, nT_101, rT_0_0, rT_0_3, rT_0_4, rT_0_5, rT_0_6, rT_0_7, rT_0_8, rT_0_9, rT_0_10, rT_1_0, rT_15_0, rT_15_1, rT_18_0, rT_80_0, rT_80_1, rT_89_0, rT_89_1, rT_93_6, rT_93_7, rT_96_0, rT_96_1, rT_99_0, rT_99_1, chS1, chK, chR7, chK7, chN7, chR8, chK8, chN8, chR9, chK9, chN9, chR10, chK10, chN10, chR11, chK11, chN11, h1, e6, h2, hcl, hin, e4, nI_1]
      refine ih (i + 1) _ (by omega) hS (fun a ha => by rw [mI_wI_ne ha]; exact hf a ha) (fun k hk => ?_)
      rw [mI_wI]
      by_cases e : k = i
      · rw [if_pos ⟨rfl, e⟩, e, if_pos h]
      · rw [if_neg (fun z => e z.2)]
        exact hw k (by omega)
    · have h2 : (nI m ≤ nI i) = True := by rw [nI_leE (by omega) (by omega)]; exact eq_true (by omega)
      simp +decide only [e_38_3, e_38_4, e_38_7, e_38_8, e_38_11, e_38_12, e_38_13, e_38_14, e_38_17, e_38_20, e_38_21, e_38_24, e_38_25, e_38_26, e_38_29, e_38_30, e_38_31, e_38_34, ↓reduceIte, Int32.reduceAdd, Int32.reduceSub, an_0, an_1, an_2, an_3, an_4, an_5, tc_0, tc_1, tc_2, tc_3, tc_4, tc_5, tc_6, tc_7, tc_8, tc_9, tc_10, tc_11, tc_12, tc_13, tc_14, tc_15, tc_16, tc_17, tc_18, tc_19, tc_20, tc_21, tc_22, tc_23, tc_24, tc_25, tc_26, tc_27, tc_28, tc_29, tc_30, tc_31, tc_32, lcl_none, lcl_int, lcl_ref, lcl_null, lcl_long, okR_nil, okR_int, okR_ref, okR_null, okR_long, pushR_some, pushR_none, va_rf_some, va_rf_none, true_and, and_true, true_implies, false_implies, not_true_eq_false, not_false_eq_true, implies_true, bI_eq0, bI_eq1, bI_01, Classical.not_not, or_em, false_and, and_false, hS.1, hS.2.1, hS.2.2.1, hS.2.2.2.1, kT_0, kT_1, kT_2, kT_15, kT_16, kT_17, kT_18, kT_19, kT_80, kT_81, kT_82, kT_89, kT_90, kT_91, kT_92, kT_93, kT_94, kT_95, kT_96, kT_97, kT_98, kT_99, kT_100, kT_101, nT_2, nT_16, nT_17, nT_19, nT_81, nT_82, nT_90, nT_91, nT_94, nT_95, nT_97, nT_98, nT_100, nT_101, rT_0_0, rT_0_3, rT_0_4, rT_0_5, rT_0_6, rT_0_7, rT_0_8, rT_0_9, rT_0_10, rT_1_0, rT_15_0, rT_15_1, rT_18_0, rT_80_0, rT_80_1, rT_89_0, rT_89_1, rT_93_6, rT_93_7, rT_96_0, rT_96_1, rT_99_0, rT_99_1, chS1, chK, chR7, chK7, chN7, chR8, chK8, chN8, chR9, chK9, chN9, chR10, chK10, chN10, chR11, chK11, chN11, h1, e6, h2, hcl, hin, nI_1]
      refine ih (i + 1) _ (by omega) hS (fun a ha => by rw [mI_wI_ne ha]; exact hf a ha) (fun k hk => ?_)
      rw [mI_wI]
      by_cases e : k = i
      · rw [if_pos ⟨rfl, e⟩, e, if_neg h]
      · rw [if_neg (fun z => e z.2)]
        exact hw k (by omega)
theorem L_b2 {n : Nat} {b : Bool} {M0 : ab_M} {Q : ab_Q} (hn : n ≤ 5) (h5 : mI M0 (chL b) 5 = nI n) (hQ : ∀ M1, Sh b M1 → (∀ a, a ≠ 17 → mI M1 a = mI M0 a) → (∀ k, k < 5 → mI M1 17 k = if k < n then mI M0 (chL b + 3) k else -1) → Ev 0 38 74 [some (.ref 15), some (.ref (chL b)), some (.int 5)] [] M1 Q) : ∀ q i M, i + q = 5 → Sh b M → (∀ a, a ≠ 17 → mI M a = mI M0 a) → (∀ k, k < i → mI M 17 k = if k < n then mI M0 (chL b + 3) k else -1) → Ev 0 38 39 [some (.ref 15), some (.ref (chL b)), some (.int (nI i))] [] M Q := by
  have hb := chL_lt b
  intro q
  induction q with
  | zero =>
    intro i M hi hS hf hw
    have h1 : (5 ≤ nI i) = True := by rw [show i = 5 by omega]; exact eq_true (by decide)
    rw [e_38_39]
    simp +decide only [e_38_40, e_38_41, ↓reduceIte, Int32.reduceAdd, Int32.reduceSub, an_0, an_1, an_2, an_3, an_4, an_5, tc_0, tc_1, tc_2, tc_3, tc_4, tc_5, tc_6, tc_7, tc_8, tc_9, tc_10, tc_11, tc_12, tc_13, tc_14, tc_15, tc_16, tc_17, tc_18, tc_19, tc_20, tc_21, tc_22, tc_23, tc_24, tc_25, tc_26, tc_27, tc_28, tc_29, tc_30, tc_31, tc_32, lcl_none, lcl_int, lcl_ref, lcl_null, lcl_long, okR_nil, okR_int, okR_ref, okR_null, okR_long, pushR_some, pushR_none, va_rf_some, va_rf_none, true_and, and_true, true_implies, false_implies, not_true_eq_false, not_false_eq_true, implies_true, bI_eq0, bI_eq1, bI_01, Classical.not_not, or_em, false_and, and_false, h1]
    rw [show i = 5 by omega] at hw ⊢
    exact hQ M hS hf hw
  | succ q ih =>
    intro i M hi hS hf hw
    have h1 : (5 ≤ nI i) = False := by rw [show (5 : Int32) = nI 5 from rfl, nI_leE (by decide) (by omega)]; exact eq_false (by omega)
    have e6 : mI M (chL b) 5 = nI n := by rw [hf _ (by omega)]; exact h5
    have hcl : (nI i).toNatClampNeg = i := nI_clamp (by omega)
    have hin : inX (nI i) 5 = True := eq_true (inX_nI (by decide) (by omega))
    rw [e_38_39]
    by_cases h : i < n
    · have h2 : (nI n ≤ nI i) = False := by rw [nI_leE (by omega) (by omega)]; exact eq_false (by omega)
      have e4 : mI M (chL b + 3) i = mI M0 (chL b + 3) i := by rw [hf _ (by omega)]
      simp +decide only [e_38_40, e_38_41, e_38_44, e_38_45, e_38_48, e_38_49, e_38_50, e_38_51, e_38_54, e_38_57, e_38_58, e_38_61, e_38_62, e_38_63, e_38_66, e_38_67, e_38_68, e_38_71, ↓reduceIte, Int32.reduceAdd, Int32.reduceSub, an_0, an_1, an_2, an_3, an_4, an_5, tc_0, tc_1, tc_2, tc_3, tc_4, tc_5, tc_6, tc_7, tc_8, tc_9, tc_10, tc_11, tc_12, tc_13, tc_14, tc_15, tc_16, tc_17, tc_18, tc_19, tc_20, tc_21, tc_22, tc_23, tc_24, tc_25, tc_26, tc_27, tc_28, tc_29, tc_30, tc_31, tc_32, lcl_none, lcl_int, lcl_ref, lcl_null, lcl_long, okR_nil, okR_int, okR_ref, okR_null, okR_long, pushR_some, pushR_none, va_rf_some, va_rf_none, true_and, and_true, true_implies, false_implies, not_true_eq_false, not_false_eq_true, implies_true, bI_eq0, bI_eq1, bI_01, Classical.not_not, or_em, false_and, and_false, hS.1, hS.2.1, hS.2.2.1, hS.2.2.2.1, kT_0, kT_1, kT_2, kT_15, kT_16, kT_17, kT_18, kT_19, kT_80, kT_81, kT_82, kT_89, kT_90, kT_91, kT_92, kT_93, kT_94, kT_95, kT_96, kT_97, kT_98, kT_99, kT_100, kT_101, nT_2, nT_16, nT_17, nT_19, nT_81, nT_82, nT_90, nT_91, nT_94, nT_95, nT_97, nT_98, nT_100, nT_101, rT_0_0, rT_0_3, rT_0_4, rT_0_5, rT_0_6, rT_0_7, rT_0_8, rT_0_9, rT_0_10, rT_1_0, rT_15_0, rT_15_1, rT_18_0, rT_80_0, rT_80_1, rT_89_0, rT_89_1, rT_93_6, rT_93_7, rT_96_0, rT_96_1, rT_99_0, rT_99_1, chS1, chK, chR7, chK7, chN7, chR8, chK8, chN8, chR9, chK9, chN9, chR10, chK10, chN10, chR11, chK11, chN11, h1, e6, h2, hcl, hin, e4, nI_1]
      refine ih (i + 1) _ (by omega) hS (fun a ha => by rw [mI_wI_ne ha]; exact hf a ha) (fun k hk => ?_)
      rw [mI_wI]
      by_cases e : k = i
      · rw [if_pos ⟨rfl, e⟩, e, if_pos h]
      · rw [if_neg (fun z => e z.2)]
        exact hw k (by omega)
    · have h2 : (nI n ≤ nI i) = True := by rw [nI_leE (by omega) (by omega)]; exact eq_true (by omega)
      simp +decide only [e_38_40, e_38_41, e_38_44, e_38_45, e_38_48, e_38_49, e_38_50, e_38_51, e_38_54, e_38_57, e_38_58, e_38_61, e_38_62, e_38_63, e_38_66, e_38_67, e_38_68, e_38_71, ↓reduceIte, Int32.reduceAdd, Int32.reduceSub, an_0, an_1, an_2, an_3, an_4, an_5, tc_0, tc_1, tc_2, tc_3, tc_4, tc_5, tc_6, tc_7, tc_8, tc_9, tc_10, tc_11, tc_12, tc_13, tc_14, tc_15, tc_16, tc_17, tc_18, tc_19, tc_20, tc_21, tc_22, tc_23, tc_24, tc_25, tc_26, tc_27, tc_28, tc_29, tc_30, tc_31, tc_32, lcl_none, lcl_int, lcl_ref, lcl_null, lcl_long, okR_nil, okR_int, okR_ref, okR_null, okR_long, pushR_some, pushR_none, va_rf_some, va_rf_none, true_and, and_true, true_implies, false_implies, not_true_eq_false, not_false_eq_true, implies_true, bI_eq0, bI_eq1, bI_01, Classical.not_not, or_em, false_and, and_false, hS.1, hS.2.1, hS.2.2.1, hS.2.2.2.1, kT_0, kT_1, kT_2, kT_15, kT_16, kT_17, kT_18, kT_19, kT_80, kT_81, kT_82, kT_89, kT_90, kT_91, kT_92, kT_93, kT_94, kT_95, kT_96, kT_97, kT_98, kT_99, kT_100, kT_101, nT_2, nT_16, nT_17, nT_19, nT_81, nT_82, nT_90, nT_91, nT_94, nT_95, nT_97, nT_98, nT_100, nT_101, rT_0_0, rT_0_3, rT_0_4, rT_0_5, rT_0_6, rT_0_7, rT_0_8, rT_0_9, rT_0_10, rT_1_0, rT_15_0, rT_15_1, rT_18_0, rT_80_0, rT_80_1, rT_89_0, rT_89_1, rT_93_6, rT_93_7, rT_96_0, rT_96_1, rT_99_0, rT_99_1, chS1, chK, chR7, chK7, chN7, chR8, chK8, chN8, chR9, chK9, chN9, chR10, chK10, chN10, chR11, chK11, chN11, h1, e6, h2, hcl, hin, nI_1]
      refine ih (i + 1) _ (by omega) hS (fun a ha => by rw [mI_wI_ne ha]; exact hf a ha) (fun k hk => ?_)
      rw [mI_wI]
      by_cases e : k = i
      · rw [if_pos ⟨rfl, e⟩, e, if_neg h]
      · rw [if_neg (fun z => e z.2)]
        exact hw k (by omega)
theorem c_begin {d n m : Nat} {b : Bool} {M : ab_M} (hd : 1 ≤ d) (hS : Sh b M) (hn : n ≤ 5) (hm : m ≤ 5) (h5 : mI M (chL b) 5 = nI n) (h6 : mI M (chL b) 6 = nI m) : EvD d 38 [.ref 15, .ref (chL b)] M (fun r M1 => r = none ∧ Sh b M1 ∧ (∀ a, a ≠ 15 → a ≠ 16 → a ≠ 17 → mI M1 a = mI M a) ∧ (∀ k, k < 5 → mI M1 16 k = if k < m then mI M (chL b + 4) k else 0) ∧ (∀ k, k < 5 → mI M1 17 k = if k < n then mI M (chL b + 3) k else -1) ∧ mI M1 15 2 = nI (2 ^ n - 1) ∧ mI M1 15 3 = 0 ∧ mI M1 15 4 = 0 ∧ mI M1 15 5 = 0) := by
  have hb := chL_lt b
  rw [b_38 hd]
  simp +decide only [e_38_0, e_38_1, ↓reduceIte, Int32.reduceAdd, Int32.reduceSub, an_0, an_1, an_2, an_3, an_4, an_5, tc_0, tc_1, tc_2, tc_3, tc_4, tc_5, tc_6, tc_7, tc_8, tc_9, tc_10, tc_11, tc_12, tc_13, tc_14, tc_15, tc_16, tc_17, tc_18, tc_19, tc_20, tc_21, tc_22, tc_23, tc_24, tc_25, tc_26, tc_27, tc_28, tc_29, tc_30, tc_31, tc_32, lcl_none, lcl_int, lcl_ref, lcl_null, lcl_long, okR_nil, okR_int, okR_ref, okR_null, okR_long, pushR_some, pushR_none, va_rf_some, va_rf_none, true_and, and_true, true_implies, false_implies, not_true_eq_false, not_false_eq_true, implies_true, bI_eq0, bI_eq1, bI_01, Classical.not_not, or_em, false_and, and_false]
  refine L_b1 (M0 := M) hm h6 (fun M1 hS1 hf1 hw1 => ?_) 5 0 M (by omega) hS (fun _ _ => rfl) (fun k hk => absurd hk (Nat.not_lt_zero k))
  simp +decide only [e_38_37, e_38_38, ↓reduceIte, Int32.reduceAdd, Int32.reduceSub, an_0, an_1, an_2, an_3, an_4, an_5, tc_0, tc_1, tc_2, tc_3, tc_4, tc_5, tc_6, tc_7, tc_8, tc_9, tc_10, tc_11, tc_12, tc_13, tc_14, tc_15, tc_16, tc_17, tc_18, tc_19, tc_20, tc_21, tc_22, tc_23, tc_24, tc_25, tc_26, tc_27, tc_28, tc_29, tc_30, tc_31, tc_32, lcl_none, lcl_int, lcl_ref, lcl_null, lcl_long, okR_nil, okR_int, okR_ref, okR_null, okR_long, pushR_some, pushR_none, va_rf_some, va_rf_none, true_and, and_true, true_implies, false_implies, not_true_eq_false, not_false_eq_true, implies_true, bI_eq0, bI_eq1, bI_01, Classical.not_not, or_em, false_and, and_false]
  refine L_b2 (M0 := M1) hn (by rw [hf1 _ (by omega)]; exact h5) (fun M2 hS2 hf2 hw2 => ?_) 5 0 M1 (by omega) hS1 (fun _ _ => rfl) (fun k hk => absurd hk (Nat.not_lt_zero k))
  have e5 : mI M2 (chL b) 5 = nI n := by rw [hf2 _ (by omega), hf1 _ (by omega)]; exact h5
  have eL : (1 : Int32) <<< (nI n &&& 31) = nI (2 ^ n) := by
    have : ∀ L, L ≤ 5 → (1 : Int32) <<< (nI L &&& 31) = nI (2 ^ L) := by decide +kernel
    exact this n hn
  have eM : nI (2 ^ n) - 1 = nI (2 ^ n - 1) := pk_sub (b := 1) (Nat.pow_pos (by decide))
  simp +decide only [e_38_74, e_38_75, e_38_76, e_38_77, e_38_80, e_38_81, e_38_82, e_38_83, e_38_86, e_38_87, e_38_88, e_38_91, e_38_92, e_38_93, e_38_96, e_38_97, e_38_98, e_38_101, ↓reduceIte, Int32.reduceAdd, Int32.reduceSub, an_0, an_1, an_2, an_3, an_4, an_5, tc_0, tc_1, tc_2, tc_3, tc_4, tc_5, tc_6, tc_7, tc_8, tc_9, tc_10, tc_11, tc_12, tc_13, tc_14, tc_15, tc_16, tc_17, tc_18, tc_19, tc_20, tc_21, tc_22, tc_23, tc_24, tc_25, tc_26, tc_27, tc_28, tc_29, tc_30, tc_31, tc_32, lcl_none, lcl_int, lcl_ref, lcl_null, lcl_long, okR_nil, okR_int, okR_ref, okR_null, okR_long, pushR_some, pushR_none, va_rf_some, va_rf_none, true_and, and_true, true_implies, false_implies, not_true_eq_false, not_false_eq_true, implies_true, bI_eq0, bI_eq1, bI_01, Classical.not_not, or_em, false_and, and_false, hS2.1, hS2.2.1, hS2.2.2.1, hS2.2.2.2.1, kT_0, kT_1, kT_2, kT_15, kT_16, kT_17, kT_18, kT_19, kT_80, kT_81, kT_82, kT_89, kT_90, kT_91, kT_92, kT_93, kT_94, kT_95, kT_96, kT_97, kT_98, kT_99, kT_100, kT_101, nT_2, nT_16, nT_17, nT_19, nT_81, nT_82, nT_90, nT_91, nT_94, nT_95, nT_97, nT_98, nT_100, nT_101, rT_0_0, rT_0_3, rT_0_4, rT_0_5, rT_0_6, rT_0_7, rT_0_8, rT_0_9, rT_0_10, rT_1_0, rT_15_0, rT_15_1, rT_18_0, rT_80_0, rT_80_1, rT_89_0, rT_89_1, rT_93_6, rT_93_7, rT_96_0, rT_96_1, rT_99_0, rT_99_1, chS1, chK, chR7, chK7, chN7, chR8, chK8, chN8, chR9, chK9, chN9, chR10, chK10, chN10, chR11, chK11, chN11, mK_wI, e5, eL, eM]
  refine ⟨hS2, fun a h1 h2 h3 => ?_, fun k hk => ?_, fun k hk => ?_, ?_, ?_, ?_, ?_⟩
  · rw [mI_wI_ne h1, mI_wI_ne h1, mI_wI_ne h1, mI_wI_ne h1, hf2 a h3, hf1 a h2]
  · rw [mI_wI_ne (by decide), mI_wI_ne (by decide), mI_wI_ne (by decide), mI_wI_ne (by decide), hf2 16 (by decide)]
    exact hw1 k hk
  · rw [mI_wI_ne (by decide), mI_wI_ne (by decide), mI_wI_ne (by decide), mI_wI_ne (by decide), hw2 k hk, hf1 (chL b + 3) (by omega)]
  · simp [mI_wI]
  · simp [mI_wI]
  · simp [mI_wI]
  · simp [mI_wI]
