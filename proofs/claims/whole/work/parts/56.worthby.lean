/-! the model: worth -/
theorem L_wz {b : Bool} {s n al g h : Int32} {x7 x8 : Option Value} {M0 : ab_M} {Q : ab_Q} (hQ : ∀ M1, Sh b M1 → mI M1 = mI M0 → (∀ A, A < 32 → mJ M1 117 A = lN 0) → Ev 3 157 24 [some (.ref 102), some (.int s), some (.int n), some (.int al), some (.int g), some (.int h), some (.int 32), x7, x8] [] M1 Q) : ∀ m i M, i + m = 32 → Sh b M → mI M = mI M0 → (∀ A, A < i → mJ M 117 A = lN 0) → Ev 3 157 3 [some (.ref 102), some (.int s), some (.int n), some (.int al), some (.int g), some (.int h), some (.int (nI i)), x7, x8] [] M Q := by
  intro m
  induction m with
  | zero =>
    intro i M hi hS hI hf
    have h1 : (32 ≤ nI i) = True := by rw [show i = 32 by omega]; exact eq_true (by decide)
    rw [e_157_3]
    simp +decide only [e_157_5, e_157_7, ↓reduceIte, Int32.reduceAdd, Int32.reduceSub, an_0, an_1, an_2, an_3, an_4, an_5, tc_0, tc_1, tc_2, tc_3, tc_4, tc_5, tc_6, tc_7, tc_8, tc_9, tc_10, tc_11, tc_12, tc_13, tc_14, tc_15, tc_16, tc_17, tc_18, tc_19, tc_20, tc_21, tc_22, tc_23, tc_24, tc_25, tc_26, tc_27, tc_28, tc_29, tc_30, tc_31, tc_32, lcl_none, lcl_int, lcl_ref, lcl_null, lcl_long, okR_nil, okR_int, okR_ref, okR_null, okR_long, pushR_some, pushR_none, va_rf_some, va_rf_none, true_and, and_true, true_implies, false_implies, not_true_eq_false, not_false_eq_true, implies_true, bI_eq0, bI_eq1, bI_01, Classical.not_not, or_em, false_and, and_false, h1]
    rw [show i = 32 by omega] at hf ⊢
    exact hQ M hS hI hf
  | succ m ih =>
    intro i M hi hS hI hf
    have h1 : (32 ≤ nI i) = False := by rw [show (32 : Int32) = nI 32 from rfl, nI_leE (by decide) (by omega)]; exact eq_false (by omega)
    have hcl : (nI i).toNatClampNeg = i := nI_clamp (by omega)
    have hin : inX (nI i) 32 = True := eq_true (inX_nI (by decide) (by omega))
    rw [e_157_3]
    simp +decide only [e_157_5, e_157_7, e_157_10, e_157_11, e_157_14, e_157_16, e_157_17, e_157_18, e_157_21, ↓reduceIte, Int32.reduceAdd, Int32.reduceSub, an_0, an_1, an_2, an_3, an_4, an_5, tc_0, tc_1, tc_2, tc_3, tc_4, tc_5, tc_6, tc_7, tc_8, tc_9, tc_10, tc_11, tc_12, tc_13, tc_14, tc_15, tc_16, tc_17, tc_18, tc_19, tc_20, tc_21, tc_22, tc_23, tc_24, tc_25, tc_26, tc_27, tc_28, tc_29, tc_30, tc_31, tc_32, lcl_none, lcl_int, lcl_ref, lcl_null, lcl_long, okR_nil, okR_int, okR_ref, okR_null, okR_long, pushR_some, pushR_none, va_rf_some, va_rf_none, true_and, and_true, true_implies, false_implies, not_true_eq_false, not_false_eq_true, implies_true, bI_eq0, bI_eq1, bI_01, Classical.not_not, or_em, false_and, and_false, hS.1, hS.2.1, hS.2.2.1, hS.2.2.2.1, kT_102, kT_103, kT_104, kT_105, kT_106, kT_107, kT_108, kT_109, kT_110, kT_111, kT_112, kT_113, kT_114, kT_115, kT_116, kT_117, kT_118, kT_119, kT_120, nT_103, nT_104, nT_105, nT_106, nT_107, nT_108, nT_109, nT_110, nT_111, nT_112, nT_113, nT_114, nT_115, nT_116, nT_117, nT_118, nT_119, nT_120, rT_102_1, rT_102_12, rT_102_13, rT_102_14, rT_102_18, rT_102_19, rT_102_20, rT_102_21, rT_102_22, rT_102_23, rT_102_25, rT_102_26, rT_102_27, rT_102_30, rT_102_31, rT_102_32, rT_102_33, rT_102_34, h1, hcl, hin, nI_1]
    refine ih (i + 1) _ (by omega) hS (by rw [← hI]; rfl) (fun A hA => ?_)
    rw [mJ_wJ]
    by_cases e : A = i
    · rw [if_pos ⟨rfl, e⟩]; rfl
    · rw [if_neg (fun z => e z.2)]
      exact hf A (by omega)
theorem L_wc {b : Bool} {s n al g h y : Int32} {x8 : Option Value} {M0 : ab_M} {Q : ab_Q} (hQ : ∀ M1, Sh b M1 → mI M1 = mI M0 → (∀ A, A < 32 → mJ M1 117 A = mJ M0 117 A ∧ mJ M1 118 A = mJ M0 117 A) → Ev 3 157 63 [some (.ref 102), some (.int s), some (.int n), some (.int al), some (.int g), some (.int h), some (.int y), some (.int 32), x8] [] M1 Q) : ∀ m i M, i + m = 32 → Sh b M → mI M = mI M0 → (∀ A, mJ M 117 A = mJ M0 117 A) → (∀ A, A < i → mJ M 118 A = mJ M0 117 A) → Ev 3 157 36 [some (.ref 102), some (.int s), some (.int n), some (.int al), some (.int g), some (.int h), some (.int y), some (.int (nI i)), x8] [] M Q := by
  intro m
  induction m with
  | zero =>
    intro i M hi hS hI hf hf2
    have h1 : (32 ≤ nI i) = True := by rw [show i = 32 by omega]; exact eq_true (by decide)
    rw [e_157_36]
    simp +decide only [e_157_38, e_157_40, ↓reduceIte, Int32.reduceAdd, Int32.reduceSub, an_0, an_1, an_2, an_3, an_4, an_5, tc_0, tc_1, tc_2, tc_3, tc_4, tc_5, tc_6, tc_7, tc_8, tc_9, tc_10, tc_11, tc_12, tc_13, tc_14, tc_15, tc_16, tc_17, tc_18, tc_19, tc_20, tc_21, tc_22, tc_23, tc_24, tc_25, tc_26, tc_27, tc_28, tc_29, tc_30, tc_31, tc_32, lcl_none, lcl_int, lcl_ref, lcl_null, lcl_long, okR_nil, okR_int, okR_ref, okR_null, okR_long, pushR_some, pushR_none, va_rf_some, va_rf_none, true_and, and_true, true_implies, false_implies, not_true_eq_false, not_false_eq_true, implies_true, bI_eq0, bI_eq1, bI_01, Classical.not_not, or_em, false_and, and_false, h1]
    rw [show i = 32 by omega] at hf2 ⊢
    exact hQ M hS hI (fun A hA => ⟨hf A, hf2 A hA⟩)
  | succ m ih =>
    intro i M hi hS hI hf hf2
    have h1 : (32 ≤ nI i) = False := by rw [show (32 : Int32) = nI 32 from rfl, nI_leE (by decide) (by omega)]; exact eq_false (by omega)
    have hcl : (nI i).toNatClampNeg = i := nI_clamp (by omega)
    have hin : inX (nI i) 32 = True := eq_true (inX_nI (by decide) (by omega))
    rw [e_157_36]
    simp +decide only [e_157_38, e_157_40, e_157_43, e_157_44, e_157_47, e_157_49, e_157_50, e_157_53, e_157_55, e_157_56, e_157_57, e_157_60, ↓reduceIte, Int32.reduceAdd, Int32.reduceSub, an_0, an_1, an_2, an_3, an_4, an_5, tc_0, tc_1, tc_2, tc_3, tc_4, tc_5, tc_6, tc_7, tc_8, tc_9, tc_10, tc_11, tc_12, tc_13, tc_14, tc_15, tc_16, tc_17, tc_18, tc_19, tc_20, tc_21, tc_22, tc_23, tc_24, tc_25, tc_26, tc_27, tc_28, tc_29, tc_30, tc_31, tc_32, lcl_none, lcl_int, lcl_ref, lcl_null, lcl_long, okR_nil, okR_int, okR_ref, okR_null, okR_long, pushR_some, pushR_none, va_rf_some, va_rf_none, true_and, and_true, true_implies, false_implies, not_true_eq_false, not_false_eq_true, implies_true, bI_eq0, bI_eq1, bI_01, Classical.not_not, or_em, false_and, and_false, hS.1, hS.2.1, hS.2.2.1, hS.2.2.2.1, kT_102, kT_103, kT_104, kT_105, kT_106, kT_107, kT_108, kT_109, kT_110, kT_111, kT_112, kT_113, kT_114, kT_115, kT_116, kT_117, kT_118, kT_119, kT_120, nT_103, nT_104, nT_105, nT_106, nT_107, nT_108, nT_109, nT_110, nT_111, nT_112, nT_113, nT_114, nT_115, nT_116, nT_117, nT_118, nT_119, nT_120, rT_102_1, rT_102_12, rT_102_13, rT_102_14, rT_102_18, rT_102_19, rT_102_20, rT_102_21, rT_102_22, rT_102_23, rT_102_25, rT_102_26, rT_102_27, rT_102_30, rT_102_31, rT_102_32, rT_102_33, rT_102_34, h1, hcl, hin, nI_1]
    refine ih (i + 1) _ (by omega) hS (by rw [← hI]; rfl) (fun A => ?_) (fun A hA => ?_)
    · rw [mJ_wJ, if_neg (fun z => absurd z.1 (by decide))]
      exact hf A
    · rw [mJ_wJ]
      by_cases e : A = i
      · rw [if_pos ⟨rfl, e⟩, hf i, e]
      · rw [if_neg (fun z => e z.2)]
        exact hf2 A (by omega)
theorem L_wa {L P V T : Nat} {b : Bool} {q w : Nat → Nat} {S : Nat → Int32} {s n al g h y : Int32} {M0 : ab_M} {Q : ab_Q} (hM0 : MR M0 L P V q T S) (hp : TRp L P V q (hsN S s) (haN S) T) (hs : s ≠ -1) (hb : ∀ A, A < 2 ^ L → bfN (cfN q 0 0) (bsN (pvN V T P (hsN S s) (haN S)) w) L A < 2 ^ 63) (hQ : ∀ M1 z, Sh b M1 → mI M1 = mI M0 → (∀ A, A < 2 ^ L → mJ M1 117 A = lN (wyN L (cfN q 0 0) (pvN V T P (hsN S s) (haN S)) w A)) → Ev 3 157 147 [some (.ref 102), some (.int s), some (.int n), some (.int al), some (.int g), some (.int h), some (.int y), some (.int 0), z] [] M1 Q) : ∀ m i M, i + m = 2 ^ L → Sh b M → mI M = mI M0 → (∀ A, A < 2 ^ L → mJ M 118 A = lN (w A)) → (∀ A, A < i → mJ M 117 A = lN (wyN L (cfN q 0 0) (pvN V T P (hsN S s) (haN S)) w A)) → Ev 3 157 79 [some (.ref 102), some (.int s), some (.int n), some (.int al), some (.int g), some (.int h), some (.int y), some (.int 0), some (.int (nI i))] [] M Q := by
  have hL := hp.1
  have h32 := pow_L hL
  have hsL := shl_nI
  intro m
  induction m with
  | zero =>
    intro i M hi hS hI hw hf
    have e1 : mI M 102 16 = nI L := by rw [hI]; exact hM0.1
    have eL : (1 : Int32) <<< (nI L &&& 31) = nI (2 ^ L) := by
      have : ∀ L, L ≤ 5 → (1 : Int32) <<< (nI L &&& 31) = nI (2 ^ L) := by decide +kernel
      exact this L hL
    have h1 : (nI (2 ^ L) ≤ nI i) = True := by rw [nI_leE (by omega) (by omega)]; exact eq_true (by omega)
    rw [e_157_79]
    simp +decide only [e_157_81, e_157_82, e_157_83, e_157_86, e_157_87, ↓reduceIte, Int32.reduceAdd, Int32.reduceSub, an_0, an_1, an_2, an_3, an_4, an_5, tc_0, tc_1, tc_2, tc_3, tc_4, tc_5, tc_6, tc_7, tc_8, tc_9, tc_10, tc_11, tc_12, tc_13, tc_14, tc_15, tc_16, tc_17, tc_18, tc_19, tc_20, tc_21, tc_22, tc_23, tc_24, tc_25, tc_26, tc_27, tc_28, tc_29, tc_30, tc_31, tc_32, lcl_none, lcl_int, lcl_ref, lcl_null, lcl_long, okR_nil, okR_int, okR_ref, okR_null, okR_long, pushR_some, pushR_none, va_rf_some, va_rf_none, true_and, and_true, true_implies, false_implies, not_true_eq_false, not_false_eq_true, implies_true, bI_eq0, bI_eq1, bI_01, Classical.not_not, or_em, false_and, and_false, hS.1, hS.2.1, hS.2.2.1, hS.2.2.2.1, kT_102, kT_103, kT_104, kT_105, kT_106, kT_107, kT_108, kT_109, kT_110, kT_111, kT_112, kT_113, kT_114, kT_115, kT_116, kT_117, kT_118, kT_119, kT_120, nT_103, nT_104, nT_105, nT_106, nT_107, nT_108, nT_109, nT_110, nT_111, nT_112, nT_113, nT_114, nT_115, nT_116, nT_117, nT_118, nT_119, nT_120, rT_102_1, rT_102_12, rT_102_13, rT_102_14, rT_102_18, rT_102_19, rT_102_20, rT_102_21, rT_102_22, rT_102_23, rT_102_25, rT_102_26, rT_102_27, rT_102_30, rT_102_31, rT_102_32, rT_102_33, rT_102_34, e1, eL, h1]
    rw [show i = 2 ^ L by omega] at hf ⊢
    exact hQ M _ hS hI hf
  | succ m ih =>
    intro i M hi hS hI hw hf
    have e1 : mI M 102 16 = nI L := by rw [hI]; exact hM0.1
    have eL : (1 : Int32) <<< (nI L &&& 31) = nI (2 ^ L) := by
      have : ∀ L, L ≤ 5 → (1 : Int32) <<< (nI L &&& 31) = nI (2 ^ L) := by decide +kernel
      exact this L hL
    have h1 : (nI (2 ^ L) ≤ nI i) = False := by rw [nI_leE (by omega) (by omega)]; exact eq_false (by omega)
    have hcl : (nI i).toNatClampNeg = i := nI_clamp (by omega)
    have hin : inX (nI i) 32 = True := eq_true (inX_nI (by decide) (by omega))
    rw [e_157_79]
    simp +decide only [e_157_81, e_157_82, e_157_83, e_157_86, e_157_87, e_157_90, e_157_91, e_157_94, e_157_96, e_157_98, e_157_101, e_157_103, e_157_104, e_157_107, e_157_108, e_157_111, e_157_112, e_157_113, e_157_115, e_157_117, e_157_120, e_157_122, e_157_125, e_157_126, e_157_128, e_157_131, e_157_133, e_157_136, e_157_137, ↓reduceIte, Int32.reduceAdd, Int32.reduceSub, an_0, an_1, an_2, an_3, an_4, an_5, tc_0, tc_1, tc_2, tc_3, tc_4, tc_5, tc_6, tc_7, tc_8, tc_9, tc_10, tc_11, tc_12, tc_13, tc_14, tc_15, tc_16, tc_17, tc_18, tc_19, tc_20, tc_21, tc_22, tc_23, tc_24, tc_25, tc_26, tc_27, tc_28, tc_29, tc_30, tc_31, tc_32, lcl_none, lcl_int, lcl_ref, lcl_null, lcl_long, okR_nil, okR_int, okR_ref, okR_null, okR_long, pushR_some, pushR_none, va_rf_some, va_rf_none, true_and, and_true, true_implies, false_implies, not_true_eq_false, not_false_eq_true, implies_true, bI_eq0, bI_eq1, bI_01, Classical.not_not, or_em, false_and, and_false, hS.1, hS.2.1, hS.2.2.1, hS.2.2.2.1, kT_102, kT_103, kT_104, kT_105, kT_106, kT_107, kT_108, kT_109, kT_110, kT_111, kT_112, kT_113, kT_114, kT_115, kT_116, kT_117, kT_118, kT_119, kT_120, nT_103, nT_104, nT_105, nT_106, nT_107, nT_108, nT_109, nT_110, nT_111, nT_112, nT_113, nT_114, nT_115, nT_116, nT_117, nT_118, nT_119, nT_120, rT_102_1, rT_102_12, rT_102_13, rT_102_14, rT_102_18, rT_102_19, rT_102_20, rT_102_21, rT_102_22, rT_102_23, rT_102_25, rT_102_26, rT_102_27, rT_102_30, rT_102_31, rT_102_32, rT_102_33, rT_102_34, e1, eL, h1]
    refine c_yearM (d := 3) (L := L) (P := P) (V := V) (T := T) (q := q) (S := S) (w := w) (by decide) hS (by unfold MR at hM0 ⊢; rw [hI]; exact hM0) hp hs (by omega) hw (hb i (by omega)) ?_
    simp +decide only [e_157_140, e_157_141, e_157_144, ↓reduceIte, Int32.reduceAdd, Int32.reduceSub, an_0, an_1, an_2, an_3, an_4, an_5, tc_0, tc_1, tc_2, tc_3, tc_4, tc_5, tc_6, tc_7, tc_8, tc_9, tc_10, tc_11, tc_12, tc_13, tc_14, tc_15, tc_16, tc_17, tc_18, tc_19, tc_20, tc_21, tc_22, tc_23, tc_24, tc_25, tc_26, tc_27, tc_28, tc_29, tc_30, tc_31, tc_32, lcl_none, lcl_int, lcl_ref, lcl_null, lcl_long, okR_nil, okR_int, okR_ref, okR_null, okR_long, pushR_some, pushR_none, va_rf_some, va_rf_none, true_and, and_true, true_implies, false_implies, not_true_eq_false, not_false_eq_true, implies_true, bI_eq0, bI_eq1, bI_01, Classical.not_not, or_em, false_and, and_false, hS.1, hS.2.1, hS.2.2.1, hS.2.2.2.1, kT_102, kT_103, kT_104, kT_105, kT_106, kT_107, kT_108, kT_109, kT_110, kT_111, kT_112, kT_113, kT_114, kT_115, kT_116, kT_117, kT_118, kT_119, kT_120, nT_103, nT_104, nT_105, nT_106, nT_107, nT_108, nT_109, nT_110, nT_111, nT_112, nT_113, nT_114, nT_115, nT_116, nT_117, nT_118, nT_119, nT_120, rT_102_1, rT_102_12, rT_102_13, rT_102_14, rT_102_18, rT_102_19, rT_102_20, rT_102_21, rT_102_22, rT_102_23, rT_102_25, rT_102_26, rT_102_27, rT_102_30, rT_102_31, rT_102_32, rT_102_33, rT_102_34, hcl, hin, nI_1]
    refine ih (i + 1) _ (by omega) hS (by rw [← hI]; rfl) (fun A hA => ?_) (fun A hA => ?_)
    · rw [mJ_wJ, if_neg (fun z => absurd z.1 (by decide))]
      exact hw A hA
    · rw [mJ_wJ]
      by_cases e : A = i
      · rw [if_pos ⟨rfl, e⟩, e]
      · rw [if_neg (fun z => e z.2)]
        exact hf A (by omega)
theorem L_wb {L P V T a : Nat} {b : Bool} {q w : Nat → Nat} {S : Nat → Int32} {s n g h y : Int32} {M0 : ab_M} {Q : ab_Q} (hM0 : MR M0 L P V q T S) (hp : TRp L P V q (hsN S s) (haN S) T) (hs : s ≠ -1) (ha : a < 2 ^ L) (hb : ∀ A, A < 2 ^ L → bfN (cfN q g h) (bsN (pvN V T P (hsN S s) (haN S)) w) L A < 2 ^ 63) (hQ : ∀ M1 z, Sh b M1 → mI M1 = mI M0 → mJ M1 117 a = lN (wyN L (cfN q g h) (pvN V T P (hsN S s) (haN S)) w a) → Ev 3 157 147 [some (.ref 102), some (.int s), some (.int n), some (.int (nI a)), some (.int g), some (.int h), some (.int y), some (.int 1), z] [] M1 Q) : ∀ m i M, i + m = 2 ^ L → Sh b M → mI M = mI M0 → (∀ A, A < 2 ^ L → mJ M 118 A = lN (w A)) → (a < i → mJ M 117 a = lN (wyN L (cfN q g h) (pvN V T P (hsN S s) (haN S)) w a)) → Ev 3 157 79 [some (.ref 102), some (.int s), some (.int n), some (.int (nI a)), some (.int g), some (.int h), some (.int y), some (.int 1), some (.int (nI i))] [] M Q := by
  have hL := hp.1
  have h32 := pow_L hL
  have eL : (1 : Int32) <<< (nI L &&& 31) = nI (2 ^ L) := by
    have : ∀ L, L ≤ 5 → (1 : Int32) <<< (nI L &&& 31) = nI (2 ^ L) := by decide +kernel
    exact this L hL
  intro m
  induction m with
  | zero =>
    intro i M hi hS hI hw hf
    have e1 : mI M 102 16 = nI L := by rw [hI]; exact hM0.1
    have h1 : (nI (2 ^ L) ≤ nI i) = True := by rw [nI_leE (by omega) (by omega)]; exact eq_true (by omega)
    rw [e_157_79]
    simp +decide only [e_157_81, e_157_82, e_157_83, e_157_86, e_157_87, ↓reduceIte, Int32.reduceAdd, Int32.reduceSub, an_0, an_1, an_2, an_3, an_4, an_5, tc_0, tc_1, tc_2, tc_3, tc_4, tc_5, tc_6, tc_7, tc_8, tc_9, tc_10, tc_11, tc_12, tc_13, tc_14, tc_15, tc_16, tc_17, tc_18, tc_19, tc_20, tc_21, tc_22, tc_23, tc_24, tc_25, tc_26, tc_27, tc_28, tc_29, tc_30, tc_31, tc_32, lcl_none, lcl_int, lcl_ref, lcl_null, lcl_long, okR_nil, okR_int, okR_ref, okR_null, okR_long, pushR_some, pushR_none, va_rf_some, va_rf_none, true_and, and_true, true_implies, false_implies, not_true_eq_false, not_false_eq_true, implies_true, bI_eq0, bI_eq1, bI_01, Classical.not_not, or_em, false_and, and_false, hS.1, hS.2.1, hS.2.2.1, hS.2.2.2.1, kT_102, kT_103, kT_104, kT_105, kT_106, kT_107, kT_108, kT_109, kT_110, kT_111, kT_112, kT_113, kT_114, kT_115, kT_116, kT_117, kT_118, kT_119, kT_120, nT_103, nT_104, nT_105, nT_106, nT_107, nT_108, nT_109, nT_110, nT_111, nT_112, nT_113, nT_114, nT_115, nT_116, nT_117, nT_118, nT_119, nT_120, rT_102_1, rT_102_12, rT_102_13, rT_102_14, rT_102_18, rT_102_19, rT_102_20, rT_102_21, rT_102_22, rT_102_23, rT_102_25, rT_102_26, rT_102_27, rT_102_30, rT_102_31, rT_102_32, rT_102_33, rT_102_34, e1, eL, h1]
    exact hQ M _ hS hI (hf (by omega))
  | succ m ih =>
    intro i M hi hS hI hw hf
    have e1 : mI M 102 16 = nI L := by rw [hI]; exact hM0.1
    have h1 : (nI (2 ^ L) ≤ nI i) = False := by rw [nI_leE (by omega) (by omega)]; exact eq_false (by omega)
    have hcl : (nI i).toNatClampNeg = i := nI_clamp (by omega)
    have hin : inX (nI i) 32 = True := eq_true (inX_nI (by decide) (by omega))
    rw [e_157_79]
    by_cases hia : i = a
    · have h2 : (nI i = nI a) = True := by rw [hia]; exact eq_true rfl
      simp +decide only [e_157_81, e_157_82, e_157_83, e_157_86, e_157_87, e_157_90, e_157_91, e_157_94, e_157_96, e_157_98, e_157_101, e_157_103, e_157_104, e_157_107, e_157_108, e_157_111, e_157_112, e_157_113, e_157_115, e_157_117, e_157_120, e_157_122, e_157_125, e_157_126, e_157_128, e_157_131, e_157_133, e_157_136, e_157_137, ↓reduceIte, Int32.reduceAdd, Int32.reduceSub, an_0, an_1, an_2, an_3, an_4, an_5, tc_0, tc_1, tc_2, tc_3, tc_4, tc_5, tc_6, tc_7, tc_8, tc_9, tc_10, tc_11, tc_12, tc_13, tc_14, tc_15, tc_16, tc_17, tc_18, tc_19, tc_20, tc_21, tc_22, tc_23, tc_24, tc_25, tc_26, tc_27, tc_28, tc_29, tc_30, tc_31, tc_32, lcl_none, lcl_int, lcl_ref, lcl_null, lcl_long, okR_nil, okR_int, okR_ref, okR_null, okR_long, pushR_some, pushR_none, va_rf_some, va_rf_none, true_and, and_true, true_implies, false_implies, not_true_eq_false, not_false_eq_true, implies_true, bI_eq0, bI_eq1, bI_01, Classical.not_not, or_em, false_and, and_false, hS.1, hS.2.1, hS.2.2.1, hS.2.2.2.1, kT_102, kT_103, kT_104, kT_105, kT_106, kT_107, kT_108, kT_109, kT_110, kT_111, kT_112, kT_113, kT_114, kT_115, kT_116, kT_117, kT_118, kT_119, kT_120, nT_103, nT_104, nT_105, nT_106, nT_107, nT_108, nT_109, nT_110, nT_111, nT_112, nT_113, nT_114, nT_115, nT_116, nT_117, nT_118, nT_119, nT_120, rT_102_1, rT_102_12, rT_102_13, rT_102_14, rT_102_18, rT_102_19, rT_102_20, rT_102_21, rT_102_22, rT_102_23, rT_102_25, rT_102_26, rT_102_27, rT_102_30, rT_102_31, rT_102_32, rT_102_33, rT_102_34, e1, eL, h1, h2]
      refine c_yearM (d := 3) (L := L) (P := P) (V := V) (T := T) (q := q) (S := S) (w := w) (by decide) hS (by unfold MR at hM0 ⊢; rw [hI]; exact hM0) hp hs (by omega) hw (hb i (by omega)) ?_
      simp +decide only [e_157_140, e_157_141, e_157_144, ↓reduceIte, Int32.reduceAdd, Int32.reduceSub, an_0, an_1, an_2, an_3, an_4, an_5, tc_0, tc_1, tc_2, tc_3, tc_4, tc_5, tc_6, tc_7, tc_8, tc_9, tc_10, tc_11, tc_12, tc_13, tc_14, tc_15, tc_16, tc_17, tc_18, tc_19, tc_20, tc_21, tc_22, tc_23, tc_24, tc_25, tc_26, tc_27, tc_28, tc_29, tc_30, tc_31, tc_32, lcl_none, lcl_int, lcl_ref, lcl_null, lcl_long, okR_nil, okR_int, okR_ref, okR_null, okR_long, pushR_some, pushR_none, va_rf_some, va_rf_none, true_and, and_true, true_implies, false_implies, not_true_eq_false, not_false_eq_true, implies_true, bI_eq0, bI_eq1, bI_01, Classical.not_not, or_em, false_and, and_false, hS.1, hS.2.1, hS.2.2.1, hS.2.2.2.1, kT_102, kT_103, kT_104, kT_105, kT_106, kT_107, kT_108, kT_109, kT_110, kT_111, kT_112, kT_113, kT_114, kT_115, kT_116, kT_117, kT_118, kT_119, kT_120, nT_103, nT_104, nT_105, nT_106, nT_107, nT_108, nT_109, nT_110, nT_111, nT_112, nT_113, nT_114, nT_115, nT_116, nT_117, nT_118, nT_119, nT_120, rT_102_1, rT_102_12, rT_102_13, rT_102_14, rT_102_18, rT_102_19, rT_102_20, rT_102_21, rT_102_22, rT_102_23, rT_102_25, rT_102_26, rT_102_27, rT_102_30, rT_102_31, rT_102_32, rT_102_33, rT_102_34, hcl, hin, nI_1]
      refine ih (i + 1) _ (by omega) hS (by rw [← hI]; rfl) (fun A hA => ?_) (fun hA => ?_)
      · rw [mJ_wJ, if_neg (fun z => absurd z.1 (by decide))]
        exact hw A hA
      · rw [mJ_wJ, if_pos ⟨rfl, hia.symm⟩, hia]
    · have h2 : (nI i = nI a) = False := by rw [nI_eqE (by omega) (by omega)]; exact eq_false hia
      simp +decide only [e_157_81, e_157_82, e_157_83, e_157_86, e_157_87, e_157_90, e_157_91, e_157_94, e_157_96, e_157_98, e_157_101, e_157_103, e_157_104, e_157_107, e_157_108, e_157_140, e_157_141, e_157_144, ↓reduceIte, Int32.reduceAdd, Int32.reduceSub, an_0, an_1, an_2, an_3, an_4, an_5, tc_0, tc_1, tc_2, tc_3, tc_4, tc_5, tc_6, tc_7, tc_8, tc_9, tc_10, tc_11, tc_12, tc_13, tc_14, tc_15, tc_16, tc_17, tc_18, tc_19, tc_20, tc_21, tc_22, tc_23, tc_24, tc_25, tc_26, tc_27, tc_28, tc_29, tc_30, tc_31, tc_32, lcl_none, lcl_int, lcl_ref, lcl_null, lcl_long, okR_nil, okR_int, okR_ref, okR_null, okR_long, pushR_some, pushR_none, va_rf_some, va_rf_none, true_and, and_true, true_implies, false_implies, not_true_eq_false, not_false_eq_true, implies_true, bI_eq0, bI_eq1, bI_01, Classical.not_not, or_em, false_and, and_false, hS.1, hS.2.1, hS.2.2.1, hS.2.2.2.1, kT_102, kT_103, kT_104, kT_105, kT_106, kT_107, kT_108, kT_109, kT_110, kT_111, kT_112, kT_113, kT_114, kT_115, kT_116, kT_117, kT_118, kT_119, kT_120, nT_103, nT_104, nT_105, nT_106, nT_107, nT_108, nT_109, nT_110, nT_111, nT_112, nT_113, nT_114, nT_115, nT_116, nT_117, nT_118, nT_119, nT_120, rT_102_1, rT_102_12, rT_102_13, rT_102_14, rT_102_18, rT_102_19, rT_102_20, rT_102_21, rT_102_22, rT_102_23, rT_102_25, rT_102_26, rT_102_27, rT_102_30, rT_102_31, rT_102_32, rT_102_33, rT_102_34, e1, eL, h1, h2, hcl, hin, nI_1]
      refine ih (i + 1) _ (by omega) hS (by rw [← hI]; rfl) (fun A hA => ?_) (fun hA => ?_)
      · rw [mJ_wJ, if_neg (fun z => absurd z.1 (by decide))]
        exact hw A hA
      · rw [mJ_wJ, if_neg (fun z => hia z.2.symm)]
        exact hf (by omega)
