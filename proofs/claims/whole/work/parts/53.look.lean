/-! the trial: one year -/
def bsN (p w : Nat → Nat) : Nat → Nat := fun B => 1000 * p B + w B
theorem L_y1 {L : Nat} {b : Bool} {p w : Nat → Nat} {g h : Int32} {M0 : ab_M} {Q : ab_Q} (h5 : mI M0 93 5 = nI (2 ^ L)) (hL : L ≤ 5) (hp : ∀ A, A < 2 ^ L → mJ M0 94 A = lN (1000 * p A)) (hQ : ∀ M1, Sh b M1 → mI M1 = mI M0 → (∀ c, c ≠ 95 → mJ M1 c = mJ M0 c) → (∀ A, A < 2 ^ L → mJ M1 95 A = lN (bsN p w A)) → Ev 2 66 35 [some (.ref 93), some (.ref (chL b)), some (.int g), some (.int h), some (.int (nI (2 ^ L)))] [] M1 Q) : ∀ m i M, i + m = 2 ^ L → Sh b M → mI M = mI M0 → (∀ c, c ≠ 95 → mJ M c = mJ M0 c) → (∀ A, A < 2 ^ L → mJ M 95 A = lN (if A < i then bsN p w A else w A)) → Ev 2 66 3 [some (.ref 93), some (.ref (chL b)), some (.int g), some (.int h), some (.int (nI i))] [] M Q := by
  have h32 := pow_L hL
  intro m
  induction m with
  | zero =>
    intro i M hi hS hI hJ hf
    have h1 : (nI (2 ^ L) ≤ nI i) = True := by rw [nI_leE (by omega) (by omega)]; exact eq_true (by omega)
    have e5 : mI M 93 5 = nI (2 ^ L) := by rw [hI]; exact h5
    rw [e_66_3]
    simp +decide only [e_66_5, e_66_6, e_66_9, ↓reduceIte, Int32.reduceAdd, Int32.reduceSub, an_0, an_1, an_2, an_3, an_4, an_5, tc_0, tc_1, tc_2, tc_3, tc_4, tc_5, tc_6, tc_7, tc_8, tc_9, tc_10, tc_11, tc_12, tc_13, tc_14, tc_15, tc_16, tc_17, tc_18, tc_19, tc_20, tc_21, tc_22, tc_23, tc_24, tc_25, tc_26, tc_27, tc_28, tc_29, tc_30, tc_31, tc_32, lcl_none, lcl_int, lcl_ref, lcl_null, lcl_long, okR_nil, okR_int, okR_ref, okR_null, okR_long, pushR_some, pushR_none, va_rf_some, va_rf_none, true_and, and_true, true_implies, false_implies, not_true_eq_false, not_false_eq_true, implies_true, bI_eq0, bI_eq1, bI_01, Classical.not_not, or_em, false_and, and_false, hS.1, hS.2.1, hS.2.2.1, hS.2.2.2.1, kT_0, kT_1, kT_2, kT_15, kT_16, kT_17, kT_18, kT_19, kT_80, kT_81, kT_82, kT_89, kT_90, kT_91, kT_92, kT_93, kT_94, kT_95, kT_96, kT_97, kT_98, kT_99, kT_100, kT_101, nT_2, nT_16, nT_17, nT_19, nT_81, nT_82, nT_90, nT_91, nT_94, nT_95, nT_97, nT_98, nT_100, nT_101, rT_0_0, rT_0_3, rT_0_4, rT_0_5, rT_0_6, rT_0_7, rT_0_8, rT_0_9, rT_0_10, rT_1_0, rT_15_0, rT_15_1, rT_18_0, rT_80_0, rT_80_1, rT_89_0, rT_89_1, rT_93_6, rT_93_7, rT_96_0, rT_96_1, rT_99_0, rT_99_1, e5, h1]
    have e : i = 2 ^ L := by omega
    rw [e]
    exact hQ M hS hI hJ (fun A hA => by rw [hf A hA, if_pos (by omega)])
  | succ m ih =>
    intro i M hi hS hI hJ hf
    have h1 : (nI (2 ^ L) ≤ nI i) = False := by rw [nI_leE (by omega) (by omega)]; exact eq_false (by omega)
    have e5 : mI M 93 5 = nI (2 ^ L) := by rw [hI]; exact h5
    have hcl : (nI i).toNatClampNeg = i := nI_clamp (by omega)
    have hin : inX (nI i) 32 = True := eq_true (inX_nI (by decide) (by omega))
    have f1 : mJ M 95 i = lN (w i) := by rw [hf i (by omega), if_neg (by omega)]
    have f2 : mJ M 94 i = lN (1000 * p i) := by rw [hJ 94 (by decide)]; exact hp i (by omega)
    have f3 : w i + 1000 * p i = bsN p w i := Nat.add_comm _ _
    rw [e_66_3]
    simp +decide only [e_66_5, e_66_6, e_66_9, e_66_12, e_66_13, e_66_16, e_66_18, e_66_19, e_66_20, e_66_21, e_66_24, e_66_26, e_66_27, e_66_28, e_66_29, e_66_32, ↓reduceIte, Int32.reduceAdd, Int32.reduceSub, an_0, an_1, an_2, an_3, an_4, an_5, tc_0, tc_1, tc_2, tc_3, tc_4, tc_5, tc_6, tc_7, tc_8, tc_9, tc_10, tc_11, tc_12, tc_13, tc_14, tc_15, tc_16, tc_17, tc_18, tc_19, tc_20, tc_21, tc_22, tc_23, tc_24, tc_25, tc_26, tc_27, tc_28, tc_29, tc_30, tc_31, tc_32, lcl_none, lcl_int, lcl_ref, lcl_null, lcl_long, okR_nil, okR_int, okR_ref, okR_null, okR_long, pushR_some, pushR_none, va_rf_some, va_rf_none, true_and, and_true, true_implies, false_implies, not_true_eq_false, not_false_eq_true, implies_true, bI_eq0, bI_eq1, bI_01, Classical.not_not, or_em, false_and, and_false, hS.1, hS.2.1, hS.2.2.1, hS.2.2.2.1, kT_0, kT_1, kT_2, kT_15, kT_16, kT_17, kT_18, kT_19, kT_80, kT_81, kT_82, kT_89, kT_90, kT_91, kT_92, kT_93, kT_94, kT_95, kT_96, kT_97, kT_98, kT_99, kT_100, kT_101, nT_2, nT_16, nT_17, nT_19, nT_81, nT_82, nT_90, nT_91, nT_94, nT_95, nT_97, nT_98, nT_100, nT_101, rT_0_0, rT_0_3, rT_0_4, rT_0_5, rT_0_6, rT_0_7, rT_0_8, rT_0_9, rT_0_10, rT_1_0, rT_15_0, rT_15_1, rT_18_0, rT_80_0, rT_80_1, rT_89_0, rT_89_1, rT_93_6, rT_93_7, rT_96_0, rT_96_1, rT_99_0, rT_99_1, e5, h1, hcl, hin, f1, f2, lN_add, f3, nI_1]
    refine ih (i + 1) _ (by omega) hS (by rw [← hI]; rfl) (fun c hc => by rw [← hJ c hc]; funext j; rw [mJ_wJ, if_neg (fun z => hc z.1)]) (fun A hA => ?_)
    rw [mJ_wJ]
    by_cases e : A = i
    · rw [if_pos ⟨rfl, e⟩, if_pos (by omega), e]
    · rw [if_neg (fun z => e z.2), hf A hA]
      by_cases e2 : A < i
      · rw [if_pos e2, if_pos (by omega)]
      · rw [if_neg e2, if_neg (by omega)]
theorem L_y2 {L : Nat} {b : Bool} {q f : Nat → Nat} {g h : Int32} {M0 : ab_M} {Q : ab_Q} (h5 : mI M0 93 5 = nI (2 ^ L)) (hL : L ≤ 5) (hl : mI M0 (chL b) 5 = nI L) (hq : ∀ l, l < L → mI M0 (chL b + 1) l = nI (q l) ∧ q l ≤ 100) (hQ : ∀ M1, Sh b M1 → mI M1 = mI M0 → (∀ c, c ≠ 95 → mJ M1 c = mJ M0 c) → (∀ A, A < 2 ^ L → mJ M1 95 A = lN (bfN (cfN q g h) f L A)) → Ev 2 66 83 [some (.ref 93), some (.ref (chL b)), some (.int g), some (.int h), some (.int (nI L))] [] M1 Q) : ∀ m l M, l + m = L → Sh b M → mI M = mI M0 → (∀ c, c ≠ 95 → mJ M c = mJ M0 c) → (∀ A, A < 2 ^ L → mJ M 95 A = lN (bfN (cfN q g h) f l A)) → Ev 2 66 38 [some (.ref 93), some (.ref (chL b)), some (.int g), some (.int h), some (.int (nI l))] [] M Q := by
  intro m
  induction m with
  | zero =>
    intro l M hi hS hI hJ hf
    have h1 : (nI L ≤ nI l) = True := by rw [nI_leE (by omega) (by omega)]; exact eq_true (by omega)
    have e5 : mI M (chL b) 5 = nI L := by rw [hI]; exact hl
    rw [e_66_38]
    simp +decide only [e_66_40, e_66_41, e_66_44, ↓reduceIte, Int32.reduceAdd, Int32.reduceSub, an_0, an_1, an_2, an_3, an_4, an_5, tc_0, tc_1, tc_2, tc_3, tc_4, tc_5, tc_6, tc_7, tc_8, tc_9, tc_10, tc_11, tc_12, tc_13, tc_14, tc_15, tc_16, tc_17, tc_18, tc_19, tc_20, tc_21, tc_22, tc_23, tc_24, tc_25, tc_26, tc_27, tc_28, tc_29, tc_30, tc_31, tc_32, lcl_none, lcl_int, lcl_ref, lcl_null, lcl_long, okR_nil, okR_int, okR_ref, okR_null, okR_long, pushR_some, pushR_none, va_rf_some, va_rf_none, true_and, and_true, true_implies, false_implies, not_true_eq_false, not_false_eq_true, implies_true, bI_eq0, bI_eq1, bI_01, Classical.not_not, or_em, false_and, and_false, hS.1, hS.2.1, hS.2.2.1, hS.2.2.2.1, kT_0, kT_1, kT_2, kT_15, kT_16, kT_17, kT_18, kT_19, kT_80, kT_81, kT_82, kT_89, kT_90, kT_91, kT_92, kT_93, kT_94, kT_95, kT_96, kT_97, kT_98, kT_99, kT_100, kT_101, nT_2, nT_16, nT_17, nT_19, nT_81, nT_82, nT_90, nT_91, nT_94, nT_95, nT_97, nT_98, nT_100, nT_101, rT_0_0, rT_0_3, rT_0_4, rT_0_5, rT_0_6, rT_0_7, rT_0_8, rT_0_9, rT_0_10, rT_1_0, rT_15_0, rT_15_1, rT_18_0, rT_80_0, rT_80_1, rT_89_0, rT_89_1, rT_93_6, rT_93_7, rT_96_0, rT_96_1, rT_99_0, rT_99_1, chS1, chK, chR7, chK7, chN7, chR8, chK8, chN8, chR9, chK9, chN9, chR10, chK10, chN10, chR11, chK11, chN11, e5, h1]
    have e : l = L := by omega
    rw [e] at hf ⊢
    exact hQ M hS hI hJ hf
  | succ m ih =>
    intro l M hi hS hI hJ hf
    have h1 : (nI L ≤ nI l) = False := by rw [nI_leE (by omega) (by omega)]; exact eq_false (by omega)
    have e5 : mI M (chL b) 5 = nI L := by rw [hI]; exact hl
    have hcl : (nI l).toNatClampNeg = l := nI_clamp (by omega)
    have hin : inX (nI l) 5 = True := eq_true (inX_nI (by decide) (by omega))
    have hql : mI M (chL b + 1) l = nI (q l) := by rw [hI]; exact (hq l (by omega)).1
    have hq100 := (hq l (by omega)).2
    have hch : ∀ K, EvD 2 104 [.int (nI (q l)), .int (bI (hasB g (nI l) = true)), .int (bI (hasB h (nI l) = true))] M K = K (some (.int (nI (cfN q g h l)))) M := fun K => by
      rw [c_chance (d := 2) (by decide) (by constructor; exact nI_pos' (by omega); exact (nI_leE (b := 100) (by omega) (by decide)).mpr hq100), chS_N _ hq100]
      rfl
    have hsh := shl_nI l (by omega)
    rw [e_66_38]
    simp +decide only [e_66_40, e_66_41, e_66_44, e_66_47, e_66_48, e_66_49, e_66_51, e_66_52, e_66_53, e_66_56, e_66_58, e_66_59, e_66_60, e_66_62, e_66_65, e_66_66, e_66_68, e_66_71, e_66_74, ↓reduceIte, Int32.reduceAdd, Int32.reduceSub, an_0, an_1, an_2, an_3, an_4, an_5, tc_0, tc_1, tc_2, tc_3, tc_4, tc_5, tc_6, tc_7, tc_8, tc_9, tc_10, tc_11, tc_12, tc_13, tc_14, tc_15, tc_16, tc_17, tc_18, tc_19, tc_20, tc_21, tc_22, tc_23, tc_24, tc_25, tc_26, tc_27, tc_28, tc_29, tc_30, tc_31, tc_32, lcl_none, lcl_int, lcl_ref, lcl_null, lcl_long, okR_nil, okR_int, okR_ref, okR_null, okR_long, pushR_some, pushR_none, va_rf_some, va_rf_none, true_and, and_true, true_implies, false_implies, not_true_eq_false, not_false_eq_true, implies_true, bI_eq0, bI_eq1, bI_01, Classical.not_not, or_em, false_and, and_false, hS.1, hS.2.1, hS.2.2.1, hS.2.2.2.1, kT_0, kT_1, kT_2, kT_15, kT_16, kT_17, kT_18, kT_19, kT_80, kT_81, kT_82, kT_89, kT_90, kT_91, kT_92, kT_93, kT_94, kT_95, kT_96, kT_97, kT_98, kT_99, kT_100, kT_101, nT_2, nT_16, nT_17, nT_19, nT_81, nT_82, nT_90, nT_91, nT_94, nT_95, nT_97, nT_98, nT_100, nT_101, rT_0_0, rT_0_3, rT_0_4, rT_0_5, rT_0_6, rT_0_7, rT_0_8, rT_0_9, rT_0_10, rT_1_0, rT_15_0, rT_15_1, rT_18_0, rT_80_0, rT_80_1, rT_89_0, rT_89_1, rT_93_6, rT_93_7, rT_96_0, rT_96_1, rT_99_0, rT_99_1, chS1, chK, chR7, chK7, chN7, chR8, chK8, chN8, chR9, chK9, chN9, chR10, chK10, chN10, chR11, chK11, chN11, e5, h1, hcl, hin, hql, c_isIn (d := 2) (by decide), hch, hsh]
    refine EvD_mono (c_weigh (d := 2) (L := L) (l := l) (dd := cfN q g h l) (by decide) hS (by rw [hI]; exact h5) hL (by omega) (chN_le hq100) hf) ?_
    rintro r M1 ⟨rfl, hS1, hI1, hJ1, hf1⟩
    simp +decide only [e_66_77, e_66_80, ↓reduceIte, Int32.reduceAdd, Int32.reduceSub, an_0, an_1, an_2, an_3, an_4, an_5, tc_0, tc_1, tc_2, tc_3, tc_4, tc_5, tc_6, tc_7, tc_8, tc_9, tc_10, tc_11, tc_12, tc_13, tc_14, tc_15, tc_16, tc_17, tc_18, tc_19, tc_20, tc_21, tc_22, tc_23, tc_24, tc_25, tc_26, tc_27, tc_28, tc_29, tc_30, tc_31, tc_32, lcl_none, lcl_int, lcl_ref, lcl_null, lcl_long, okR_nil, okR_int, okR_ref, okR_null, okR_long, pushR_some, pushR_none, va_rf_some, va_rf_none, true_and, and_true, true_implies, false_implies, not_true_eq_false, not_false_eq_true, implies_true, bI_eq0, bI_eq1, bI_01, Classical.not_not, or_em, false_and, and_false, nI_1]
    exact ih (l + 1) M1 (by omega) hS1 (hI1.trans hI) (fun c hc => (hJ1 c hc).trans (hJ c hc)) hf1
theorem L_y3 {L : Nat} {b : Bool} {f : Nat → Nat} {g h : Int32} {M0 : ab_M} {Q : ab_Q} (h5 : mI M0 93 5 = nI (2 ^ L)) (hL : L ≤ 5) (hb : ∀ A, A < 2 ^ L → f A < 2 ^ 63) (hQ : ∀ M1, Sh b M1 → mI M1 = mI M0 → (∀ c, c ≠ 95 → mJ M1 c = mJ M0 c) → (∀ A, A < 2 ^ L → mJ M1 95 A = lN (f A / 100 ^ pop5 A)) → Q none M1) : ∀ m i M, i + m = 2 ^ L → Sh b M → mI M = mI M0 → (∀ c, c ≠ 95 → mJ M c = mJ M0 c) → (∀ A, A < 2 ^ L → mJ M 95 A = lN (if A < i then f A / 100 ^ pop5 A else f A)) → Ev 2 66 86 [some (.ref 93), some (.ref (chL b)), some (.int g), some (.int h), some (.int (nI i))] [] M Q := by
  have h32 := pow_L hL
  intro m
  induction m with
  | zero =>
    intro i M hi hS hI hJ hf
    have h1 : (nI (2 ^ L) ≤ nI i) = True := by rw [nI_leE (by omega) (by omega)]; exact eq_true (by omega)
    have e5 : mI M 93 5 = nI (2 ^ L) := by rw [hI]; exact h5
    rw [e_66_86]
    simp +decide only [e_66_88, e_66_89, e_66_92, e_66_116, ↓reduceIte, Int32.reduceAdd, Int32.reduceSub, an_0, an_1, an_2, an_3, an_4, an_5, tc_0, tc_1, tc_2, tc_3, tc_4, tc_5, tc_6, tc_7, tc_8, tc_9, tc_10, tc_11, tc_12, tc_13, tc_14, tc_15, tc_16, tc_17, tc_18, tc_19, tc_20, tc_21, tc_22, tc_23, tc_24, tc_25, tc_26, tc_27, tc_28, tc_29, tc_30, tc_31, tc_32, lcl_none, lcl_int, lcl_ref, lcl_null, lcl_long, okR_nil, okR_int, okR_ref, okR_null, okR_long, pushR_some, pushR_none, va_rf_some, va_rf_none, true_and, and_true, true_implies, false_implies, not_true_eq_false, not_false_eq_true, implies_true, bI_eq0, bI_eq1, bI_01, Classical.not_not, or_em, false_and, and_false, hS.1, hS.2.1, hS.2.2.1, hS.2.2.2.1, kT_0, kT_1, kT_2, kT_15, kT_16, kT_17, kT_18, kT_19, kT_80, kT_81, kT_82, kT_89, kT_90, kT_91, kT_92, kT_93, kT_94, kT_95, kT_96, kT_97, kT_98, kT_99, kT_100, kT_101, nT_2, nT_16, nT_17, nT_19, nT_81, nT_82, nT_90, nT_91, nT_94, nT_95, nT_97, nT_98, nT_100, nT_101, rT_0_0, rT_0_3, rT_0_4, rT_0_5, rT_0_6, rT_0_7, rT_0_8, rT_0_9, rT_0_10, rT_1_0, rT_15_0, rT_15_1, rT_18_0, rT_80_0, rT_80_1, rT_89_0, rT_89_1, rT_93_6, rT_93_7, rT_96_0, rT_96_1, rT_99_0, rT_99_1, e5, h1]
    exact hQ M hS hI hJ (fun A hA => by rw [hf A hA, if_pos (by omega)])
  | succ m ih =>
    intro i M hi hS hI hJ hf
    have h1 : (nI (2 ^ L) ≤ nI i) = False := by rw [nI_leE (by omega) (by omega)]; exact eq_false (by omega)
    have e5 : mI M 93 5 = nI (2 ^ L) := by rw [hI]; exact h5
    have hcl : (nI i).toNatClampNeg = i := nI_clamp (by omega)
    have hin : inX (nI i) 32 = True := eq_true (inX_nI (by decide) (by omega))
    have f1 : mJ M 95 i = lN (f i) := by rw [hf i (by omega), if_neg (by omega)]
    have hw : ∀ K, EvD 2 68 [.int (nI i)] M K = K (some (.long (lN (100 ^ pop5 i)))) M := fun K => c_wholeOf (Nat.le_refl 2) (by omega)
    have h5' : pop5 i ≤ 5 := pop5_le i (by omega)
    have hpw : 100 ^ pop5 i ≤ 100 ^ 5 := Nat.pow_le_pow_right (by decide) h5'
    have hps : 0 < 100 ^ pop5 i := Nat.pow_pos (by decide)
    have hne : (lN (100 ^ pop5 i) = 0) = False := by
      refine eq_false (fun z => ?_)
      have z2 := congrArg Int64.toInt z
      rw [show lN (100 ^ pop5 i) = Int64.ofNat (100 ^ pop5 i) from rfl, Int64.toInt_ofNat_of_lt (by omega)] at z2
      have z3 : (0 : Int64).toInt = 0 := by decide
      omega
    have hdv : lN (f i) / lN (100 ^ pop5 i) = lN (f i / 100 ^ pop5 i) := lN_div (hb i (by omega)) (by omega)
    rw [e_66_86]
    simp +decide only [e_66_88, e_66_89, e_66_92, e_66_95, e_66_96, e_66_99, e_66_101, e_66_102, e_66_103, e_66_105, e_66_108, e_66_109, e_66_110, e_66_113, ↓reduceIte, Int32.reduceAdd, Int32.reduceSub, an_0, an_1, an_2, an_3, an_4, an_5, tc_0, tc_1, tc_2, tc_3, tc_4, tc_5, tc_6, tc_7, tc_8, tc_9, tc_10, tc_11, tc_12, tc_13, tc_14, tc_15, tc_16, tc_17, tc_18, tc_19, tc_20, tc_21, tc_22, tc_23, tc_24, tc_25, tc_26, tc_27, tc_28, tc_29, tc_30, tc_31, tc_32, lcl_none, lcl_int, lcl_ref, lcl_null, lcl_long, okR_nil, okR_int, okR_ref, okR_null, okR_long, pushR_some, pushR_none, va_rf_some, va_rf_none, true_and, and_true, true_implies, false_implies, not_true_eq_false, not_false_eq_true, implies_true, bI_eq0, bI_eq1, bI_01, Classical.not_not, or_em, false_and, and_false, hS.1, hS.2.1, hS.2.2.1, hS.2.2.2.1, kT_0, kT_1, kT_2, kT_15, kT_16, kT_17, kT_18, kT_19, kT_80, kT_81, kT_82, kT_89, kT_90, kT_91, kT_92, kT_93, kT_94, kT_95, kT_96, kT_97, kT_98, kT_99, kT_100, kT_101, nT_2, nT_16, nT_17, nT_19, nT_81, nT_82, nT_90, nT_91, nT_94, nT_95, nT_97, nT_98, nT_100, nT_101, rT_0_0, rT_0_3, rT_0_4, rT_0_5, rT_0_6, rT_0_7, rT_0_8, rT_0_9, rT_0_10, rT_1_0, rT_15_0, rT_15_1, rT_18_0, rT_80_0, rT_80_1, rT_89_0, rT_89_1, rT_93_6, rT_93_7, rT_96_0, rT_96_1, rT_99_0, rT_99_1, e5, h1, hcl, hin, f1, hw, hne, hdv, nI_1]
    refine ih (i + 1) _ (by omega) hS (by rw [← hI]; rfl) (fun c hc => by rw [← hJ c hc]; funext j; rw [mJ_wJ, if_neg (fun z => hc z.1)]) (fun A hA => ?_)
    rw [mJ_wJ]
    by_cases e : A = i
    · rw [if_pos ⟨rfl, e⟩, if_pos (by omega), e]
    · rw [if_neg (fun z => e z.2), hf A hA]
      by_cases e2 : A < i
      · rw [if_pos e2, if_pos (by omega)]
      · rw [if_neg e2, if_neg (by omega)]
theorem c_yearC {d L : Nat} {b : Bool} {q p w : Nat → Nat} {g h : Int32} {M : ab_M} (hd : 3 ≤ d) (hS : Sh b M) (h5 : mI M 93 5 = nI (2 ^ L)) (hL : L ≤ 5) (hl : mI M (chL b) 5 = nI L) (hq : ∀ l, l < L → mI M (chL b + 1) l = nI (q l) ∧ q l ≤ 100) (hp : ∀ A, A < 2 ^ L → mJ M 94 A = lN (1000 * p A)) (hw : ∀ A, A < 2 ^ L → mJ M 95 A = lN (w A)) (hb : ∀ A, A < 2 ^ L → bfN (cfN q g h) (bsN p w) L A < 2 ^ 63) : EvD d 66 [.ref 93, .ref (chL b), .int g, .int h] M (fun r M1 => r = none ∧ Sh b M1 ∧ mI M1 = mI M ∧ (∀ c, c ≠ 95 → mJ M1 c = mJ M c) ∧ ∀ A, A < 2 ^ L → mJ M1 95 A = lN (wyN L (cfN q g h) p w A)) := by
  rw [b_66 hd]
  simp +decide only [e_66_0, e_66_1, ↓reduceIte, Int32.reduceAdd, Int32.reduceSub, an_0, an_1, an_2, an_3, an_4, an_5, tc_0, tc_1, tc_2, tc_3, tc_4, tc_5, tc_6, tc_7, tc_8, tc_9, tc_10, tc_11, tc_12, tc_13, tc_14, tc_15, tc_16, tc_17, tc_18, tc_19, tc_20, tc_21, tc_22, tc_23, tc_24, tc_25, tc_26, tc_27, tc_28, tc_29, tc_30, tc_31, tc_32, lcl_none, lcl_int, lcl_ref, lcl_null, lcl_long, okR_nil, okR_int, okR_ref, okR_null, okR_long, pushR_some, pushR_none, va_rf_some, va_rf_none, true_and, and_true, true_implies, false_implies, not_true_eq_false, not_false_eq_true, implies_true, bI_eq0, bI_eq1, bI_01, Classical.not_not, or_em, false_and, and_false]
  refine L_y1 h5 hL hp (fun M1 hS1 hI1 hJ1 hf1 => ?_) (2 ^ L) 0 M (by omega) hS rfl (fun _ _ => rfl) (fun A hA => by rw [if_neg (by omega)]; exact hw A hA)
  simp +decide only [e_66_35, e_66_36, ↓reduceIte, Int32.reduceAdd, Int32.reduceSub, an_0, an_1, an_2, an_3, an_4, an_5, tc_0, tc_1, tc_2, tc_3, tc_4, tc_5, tc_6, tc_7, tc_8, tc_9, tc_10, tc_11, tc_12, tc_13, tc_14, tc_15, tc_16, tc_17, tc_18, tc_19, tc_20, tc_21, tc_22, tc_23, tc_24, tc_25, tc_26, tc_27, tc_28, tc_29, tc_30, tc_31, tc_32, lcl_none, lcl_int, lcl_ref, lcl_null, lcl_long, okR_nil, okR_int, okR_ref, okR_null, okR_long, pushR_some, pushR_none, va_rf_some, va_rf_none, true_and, and_true, true_implies, false_implies, not_true_eq_false, not_false_eq_true, implies_true, bI_eq0, bI_eq1, bI_01, Classical.not_not, or_em, false_and, and_false]
  refine L_y2 (M0 := M1) (q := q) (f := bsN p w) (by rw [hI1]; exact h5) hL (by rw [hI1]; exact hl) (fun l hl => by rw [hI1]; exact hq l hl) (fun M2 hS2 hI2 hJ2 hf2 => ?_) L 0 M1 (by omega) hS1 rfl (fun _ _ => rfl) hf1
  simp +decide only [e_66_83, e_66_84, ↓reduceIte, Int32.reduceAdd, Int32.reduceSub, an_0, an_1, an_2, an_3, an_4, an_5, tc_0, tc_1, tc_2, tc_3, tc_4, tc_5, tc_6, tc_7, tc_8, tc_9, tc_10, tc_11, tc_12, tc_13, tc_14, tc_15, tc_16, tc_17, tc_18, tc_19, tc_20, tc_21, tc_22, tc_23, tc_24, tc_25, tc_26, tc_27, tc_28, tc_29, tc_30, tc_31, tc_32, lcl_none, lcl_int, lcl_ref, lcl_null, lcl_long, okR_nil, okR_int, okR_ref, okR_null, okR_long, pushR_some, pushR_none, va_rf_some, va_rf_none, true_and, and_true, true_implies, false_implies, not_true_eq_false, not_false_eq_true, implies_true, bI_eq0, bI_eq1, bI_01, Classical.not_not, or_em, false_and, and_false]
  exact L_y3 (M0 := M2) (by rw [hI2, hI1]; exact h5) hL hb (fun M3 hS3 hI3 hJ3 hf3 => ⟨rfl, hS3, hI3.trans (hI2.trans hI1), fun c hc => (hJ3 c hc).trans ((hJ2 c hc).trans (hJ1 c hc)), hf3⟩) (2 ^ L) 0 M2 (by omega) hS2 rfl (fun _ _ => rfl) (fun A hA => by rw [if_neg (by omega)]; exact hf2 A hA)
