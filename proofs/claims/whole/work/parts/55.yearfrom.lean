/-! the model: one year from one set -/
def MR (M : ab_M) (L P V : Nat) (q : Nat → Nat) (T : Nat) (S : Nat → Int32) : Prop := mI M 102 16 = nI L ∧ mI M 102 17 = nI P ∧ mI M 107 0 = nI V ∧ mI M 107 1 = nI T ∧ (∀ l, l < L → mI M 108 l = nI (q l)) ∧ (∀ k, k < 14 → mI M 111 k = S k) ∧ ∀ k, k < 5 → L ≤ k → S (5 + k) = -1
theorem L_prod {L P V T A B : Nat} {b : Bool} {q : Nat → Nat} {S : Nat → Int32} {s g h : Int32} {z : Int64} {M : ab_M} {Q : ab_Q} (hS : Sh b M) (hM : MR M L P V q T S) (hL : L ≤ 5) (hq : ∀ l, l < L → q l ≤ 100) (hA : A < 32) (hB : B < 32) (hQ : ∀ y, Ev 2 156 94 [some (.ref 102), some (.int s), some (.int (nI A)), some (.int g), some (.int h), some (.long z), none, some (.int (nI B)), some (.long (lN (prN (cfN q g h) A B L))), none, some (.int (nI L)), y] [] M Q) : ∀ m l x, l + m = L → Ev 2 156 27 [some (.ref 102), some (.int s), some (.int (nI A)), some (.int g), some (.int h), some (.long z), none, some (.int (nI B)), some (.long (lN (prN (cfN q g h) A B l))), none, some (.int (nI l)), x] [] M Q := by
  obtain ⟨t1, t2, t3, t4, t5, t6, t7⟩ := hM
  intro m
  induction m with
  | zero =>
    intro l x hl
    have h1 : (nI L ≤ nI l) = True := by rw [nI_leE (by omega) (by omega)]; exact eq_true (by omega)
    rw [e_156_27]
    simp +decide only [e_156_29, e_156_30, e_156_33, ↓reduceIte, Int32.reduceAdd, Int32.reduceSub, an_0, an_1, an_2, an_3, an_4, an_5, tc_0, tc_1, tc_2, tc_3, tc_4, tc_5, tc_6, tc_7, tc_8, tc_9, tc_10, tc_11, tc_12, tc_13, tc_14, tc_15, tc_16, tc_17, tc_18, tc_19, tc_20, tc_21, tc_22, tc_23, tc_24, tc_25, tc_26, tc_27, tc_28, tc_29, tc_30, tc_31, tc_32, lcl_none, lcl_int, lcl_ref, lcl_null, lcl_long, okR_nil, okR_int, okR_ref, okR_null, okR_long, pushR_some, pushR_none, va_rf_some, va_rf_none, true_and, and_true, true_implies, false_implies, not_true_eq_false, not_false_eq_true, implies_true, bI_eq0, bI_eq1, bI_01, Classical.not_not, or_em, false_and, and_false, hS.1, hS.2.1, hS.2.2.1, hS.2.2.2.1, kT_102, kT_103, kT_104, kT_105, kT_106, kT_107, kT_108, kT_109, kT_110, kT_111, kT_112, kT_113, kT_114, kT_115, kT_116, kT_117, kT_118, kT_119, kT_120, nT_103, nT_104, nT_105, nT_106, nT_107, nT_108, nT_109, nT_110, nT_111, nT_112, nT_113, nT_114, nT_115, nT_116, nT_117, nT_118, nT_119, nT_120, rT_102_1, rT_102_12, rT_102_13, rT_102_14, rT_102_18, rT_102_19, rT_102_20, rT_102_21, rT_102_22, rT_102_23, rT_102_25, rT_102_26, rT_102_27, rT_102_30, rT_102_31, rT_102_32, rT_102_33, rT_102_34, t1, h1]
    rw [show l = L by omega]
    exact hQ x
  | succ m ih =>
    intro l x hl
    have h1 : (nI L ≤ nI l) = False := by rw [nI_leE (by omega) (by omega)]; exact eq_false (by omega)
    have hql := hq l (by omega)
    have hcl : (nI l).toNatClampNeg = l := nI_clamp (by omega)
    have hch : ∀ K, EvD 2 138 [.ref 102, .int (nI l), .int g, .int h] M K = K (some (.int (nI (cfN q g h l)))) M := fun K => by
      rw [c_chanceBy (d := 2) (by decide) hS (inX_nI (by decide) (by omega)), hcl, t5 l (by omega), chS_N _ hql]
      rfl
    have hcle : cfN q g h l ≤ 100 := chN_le hql
    have e1 : (nI (cfN q g h l)).toInt64 = lN (cfN q g h l) := nI_l (by omega)
    have e2 : 100 - lN (cfN q g h l) = lN (100 - cfN q g h l) := lN_sub (a := 100) hcle
    have e3 : lN (prN (cfN q g h) A B l) * 1 = lN (prN (cfN q g h) A B l * 1) := by rw [← lN_mul]; rfl
    have hA2 := hasB_nI A hA l (by omega)
    have hB2 := hasB_nI B hB l (by omega)
    rw [e_156_27]
    have fin := ih (l + 1) (some (.int (nI (cfN q g h l)))) (by omega)
    have ep : prN (cfN q g h) A B (l + 1) = prN (cfN q g h) A B l * (if A / 2 ^ l % 2 = 1 then (if B / 2 ^ l % 2 = 1 then 100 - cfN q g h l else cfN q g h l) else 1) := rfl
    rw [ep] at fin
    by_cases a1 : A / 2 ^ l % 2 = 1
    · by_cases b1 : B / 2 ^ l % 2 = 1
      · rw [if_pos a1, if_pos b1] at fin
        simp +decide only [e_156_29, e_156_30, e_156_33, e_156_36, e_156_37, e_156_39, e_156_40, e_156_42, e_156_45, e_156_47, e_156_49, e_156_50, e_156_52, e_156_55, e_156_58, e_156_59, e_156_62, e_156_64, e_156_66, e_156_69, e_156_72, e_156_75, e_156_77, e_156_78, e_156_79, e_156_82, e_156_84, e_156_85, e_156_86, e_156_88, e_156_91, ↓reduceIte, Int32.reduceAdd, Int32.reduceSub, an_0, an_1, an_2, an_3, an_4, an_5, tc_0, tc_1, tc_2, tc_3, tc_4, tc_5, tc_6, tc_7, tc_8, tc_9, tc_10, tc_11, tc_12, tc_13, tc_14, tc_15, tc_16, tc_17, tc_18, tc_19, tc_20, tc_21, tc_22, tc_23, tc_24, tc_25, tc_26, tc_27, tc_28, tc_29, tc_30, tc_31, tc_32, lcl_none, lcl_int, lcl_ref, lcl_null, lcl_long, okR_nil, okR_int, okR_ref, okR_null, okR_long, pushR_some, pushR_none, va_rf_some, va_rf_none, true_and, and_true, true_implies, false_implies, not_true_eq_false, not_false_eq_true, implies_true, bI_eq0, bI_eq1, bI_01, Classical.not_not, or_em, false_and, and_false, hS.1, hS.2.1, hS.2.2.1, hS.2.2.2.1, kT_102, kT_103, kT_104, kT_105, kT_106, kT_107, kT_108, kT_109, kT_110, kT_111, kT_112, kT_113, kT_114, kT_115, kT_116, kT_117, kT_118, kT_119, kT_120, nT_103, nT_104, nT_105, nT_106, nT_107, nT_108, nT_109, nT_110, nT_111, nT_112, nT_113, nT_114, nT_115, nT_116, nT_117, nT_118, nT_119, nT_120, rT_102_1, rT_102_12, rT_102_13, rT_102_14, rT_102_18, rT_102_19, rT_102_20, rT_102_21, rT_102_22, rT_102_23, rT_102_25, rT_102_26, rT_102_27, rT_102_30, rT_102_31, rT_102_32, rT_102_33, rT_102_34, t1, h1, hch, c_has (d := 2) (by decide), hA2, hB2, a1, b1, decide_true, e1, e2, lN_mul, nI_1]
        exact fin
      · rw [if_pos a1, if_neg b1] at fin
        simp +decide only [e_156_29, e_156_30, e_156_33, e_156_36, e_156_37, e_156_39, e_156_40, e_156_42, e_156_45, e_156_47, e_156_49, e_156_50, e_156_52, e_156_55, e_156_58, e_156_59, e_156_62, e_156_64, e_156_66, e_156_69, e_156_72, e_156_75, e_156_77, e_156_78, e_156_79, e_156_82, e_156_84, e_156_85, e_156_86, e_156_88, e_156_91, ↓reduceIte, Int32.reduceAdd, Int32.reduceSub, an_0, an_1, an_2, an_3, an_4, an_5, tc_0, tc_1, tc_2, tc_3, tc_4, tc_5, tc_6, tc_7, tc_8, tc_9, tc_10, tc_11, tc_12, tc_13, tc_14, tc_15, tc_16, tc_17, tc_18, tc_19, tc_20, tc_21, tc_22, tc_23, tc_24, tc_25, tc_26, tc_27, tc_28, tc_29, tc_30, tc_31, tc_32, lcl_none, lcl_int, lcl_ref, lcl_null, lcl_long, okR_nil, okR_int, okR_ref, okR_null, okR_long, pushR_some, pushR_none, va_rf_some, va_rf_none, true_and, and_true, true_implies, false_implies, not_true_eq_false, not_false_eq_true, implies_true, bI_eq0, bI_eq1, bI_01, Classical.not_not, or_em, false_and, and_false, hS.1, hS.2.1, hS.2.2.1, hS.2.2.2.1, kT_102, kT_103, kT_104, kT_105, kT_106, kT_107, kT_108, kT_109, kT_110, kT_111, kT_112, kT_113, kT_114, kT_115, kT_116, kT_117, kT_118, kT_119, kT_120, nT_103, nT_104, nT_105, nT_106, nT_107, nT_108, nT_109, nT_110, nT_111, nT_112, nT_113, nT_114, nT_115, nT_116, nT_117, nT_118, nT_119, nT_120, rT_102_1, rT_102_12, rT_102_13, rT_102_14, rT_102_18, rT_102_19, rT_102_20, rT_102_21, rT_102_22, rT_102_23, rT_102_25, rT_102_26, rT_102_27, rT_102_30, rT_102_31, rT_102_32, rT_102_33, rT_102_34, t1, h1, hch, c_has (d := 2) (by decide), hA2, hB2, a1, b1, decide_true, decide_false, e1, e2, lN_mul, nI_1]
        exact fin
    · rw [if_neg a1] at fin
      simp +decide only [e_156_29, e_156_30, e_156_33, e_156_36, e_156_37, e_156_39, e_156_40, e_156_42, e_156_45, e_156_47, e_156_49, e_156_50, e_156_52, e_156_55, e_156_58, e_156_59, e_156_62, e_156_64, e_156_66, e_156_69, e_156_72, e_156_75, e_156_77, e_156_78, e_156_79, e_156_82, e_156_84, e_156_85, e_156_86, e_156_88, e_156_91, ↓reduceIte, Int32.reduceAdd, Int32.reduceSub, an_0, an_1, an_2, an_3, an_4, an_5, tc_0, tc_1, tc_2, tc_3, tc_4, tc_5, tc_6, tc_7, tc_8, tc_9, tc_10, tc_11, tc_12, tc_13, tc_14, tc_15, tc_16, tc_17, tc_18, tc_19, tc_20, tc_21, tc_22, tc_23, tc_24, tc_25, tc_26, tc_27, tc_28, tc_29, tc_30, tc_31, tc_32, lcl_none, lcl_int, lcl_ref, lcl_null, lcl_long, okR_nil, okR_int, okR_ref, okR_null, okR_long, pushR_some, pushR_none, va_rf_some, va_rf_none, true_and, and_true, true_implies, false_implies, not_true_eq_false, not_false_eq_true, implies_true, bI_eq0, bI_eq1, bI_01, Classical.not_not, or_em, false_and, and_false, hS.1, hS.2.1, hS.2.2.1, hS.2.2.2.1, kT_102, kT_103, kT_104, kT_105, kT_106, kT_107, kT_108, kT_109, kT_110, kT_111, kT_112, kT_113, kT_114, kT_115, kT_116, kT_117, kT_118, kT_119, kT_120, nT_103, nT_104, nT_105, nT_106, nT_107, nT_108, nT_109, nT_110, nT_111, nT_112, nT_113, nT_114, nT_115, nT_116, nT_117, nT_118, nT_119, nT_120, rT_102_1, rT_102_12, rT_102_13, rT_102_14, rT_102_18, rT_102_19, rT_102_20, rT_102_21, rT_102_22, rT_102_23, rT_102_25, rT_102_26, rT_102_27, rT_102_30, rT_102_31, rT_102_32, rT_102_33, rT_102_34, t1, h1, hch, c_has (d := 2) (by decide), hA2, hB2, a1, decide_true, decide_false, e1, e2, e3, nI_1]
      exact fin
theorem L_sum {L P V T A : Nat} {b : Bool} {q w : Nat → Nat} {S : Nat → Int32} {s g h : Int32} {M : ab_M} {Q : ab_Q} (hS : Sh b M) (hM : MR M L P V q T S) (hp : TRp L P V q (hsN S s) (haN S) T) (hs : s ≠ -1) (hA : A < 2 ^ L) (hw : ∀ B, B < 2 ^ L → mJ M 118 B = lN (w B)) (hQ : ∀ x8 x10 x11, Ev 2 156 128 [some (.ref 102), some (.int s), some (.int (nI A)), some (.int g), some (.int h), some (.long (lN (S0 (smT L (cfN q g h) (bsN (pvN V T P (hsN S s) (haN S)) w) A) (A + 1)))), none, some (.int (nI (A + 1))), x8, none, x10, x11] [] M Q) : ∀ m B x8 x10 x11, B + m = A + 1 → Ev 2 156 6 [some (.ref 102), some (.int s), some (.int (nI A)), some (.int g), some (.int h), some (.long (lN (S0 (smT L (cfN q g h) (bsN (pvN V T P (hsN S s) (haN S)) w) A) B))), none, some (.int (nI B)), x8, none, x10, x11] [] M Q := by
  have hM0 := hM
  obtain ⟨hL, hP, hV, hT10, hs32, hd32, hsd, hq⟩ := hp
  obtain ⟨t1, t2, t3, t4, t5, t6, t7⟩ := hM
  have h32 := pow_L hL
  intro m
  induction m with
  | zero =>
    intro B x8 x10 x11 hB
    have h1 : (nI A < nI B) = True := by rw [nI_ltE (by omega) (by omega)]; exact eq_true (by omega)
    have h1' : (nI B ≤ nI A) = False := by rw [nI_leE (by omega) (by omega)]; exact eq_false (by omega)
    rw [e_156_6]
    simp +decide only [e_156_8, e_156_9, ↓reduceIte, Int32.reduceAdd, Int32.reduceSub, an_0, an_1, an_2, an_3, an_4, an_5, tc_0, tc_1, tc_2, tc_3, tc_4, tc_5, tc_6, tc_7, tc_8, tc_9, tc_10, tc_11, tc_12, tc_13, tc_14, tc_15, tc_16, tc_17, tc_18, tc_19, tc_20, tc_21, tc_22, tc_23, tc_24, tc_25, tc_26, tc_27, tc_28, tc_29, tc_30, tc_31, tc_32, lcl_none, lcl_int, lcl_ref, lcl_null, lcl_long, okR_nil, okR_int, okR_ref, okR_null, okR_long, pushR_some, pushR_none, va_rf_some, va_rf_none, true_and, and_true, true_implies, false_implies, not_true_eq_false, not_false_eq_true, implies_true, bI_eq0, bI_eq1, bI_01, Classical.not_not, or_em, false_and, and_false, h1, h1']
    rw [show B = A + 1 by omega]
    exact hQ x8 x10 x11
  | succ m ih =>
    intro B x8 x10 x11 hB
    have h1 : (nI A < nI B) = False := by rw [nI_ltE (by omega) (by omega)]; exact eq_false (by omega)
    have h1' : (nI B ≤ nI A) = True := by rw [nI_leE (by omega) (by omega)]; exact eq_true (by omega)
    have es : S0 (smT L (cfN q g h) (bsN (pvN V T P (hsN S s) (haN S)) w) A) (B + 1) = S0 (smT L (cfN q g h) (bsN (pvN V T P (hsN S s) (haN S)) w) A) B + smT L (cfN q g h) (bsN (pvN V T P (hsN S s) (haN S)) w) A B := rfl
    rw [e_156_6]
    by_cases hsub : B &&& A = B
    · have h2 : (nI B &&& (nI A ^^^ (-1)) = 0) = True := eq_true ((and_sub A (by omega) B (by omega)).mpr hsub)
      have em : smT L (cfN q g h) (bsN (pvN V T P (hsN S s) (haN S)) w) A B = prN (cfN q g h) A B L * bsN (pvN V T P (hsN S s) (haN S)) w B := if_pos hsub
      simp +decide only [e_156_8, e_156_9, e_156_12, e_156_14, e_156_15, e_156_16, e_156_17, e_156_18, e_156_21, e_156_22, e_156_24, e_156_25, ↓reduceIte, Int32.reduceAdd, Int32.reduceSub, an_0, an_1, an_2, an_3, an_4, an_5, tc_0, tc_1, tc_2, tc_3, tc_4, tc_5, tc_6, tc_7, tc_8, tc_9, tc_10, tc_11, tc_12, tc_13, tc_14, tc_15, tc_16, tc_17, tc_18, tc_19, tc_20, tc_21, tc_22, tc_23, tc_24, tc_25, tc_26, tc_27, tc_28, tc_29, tc_30, tc_31, tc_32, lcl_none, lcl_int, lcl_ref, lcl_null, lcl_long, okR_nil, okR_int, okR_ref, okR_null, okR_long, pushR_some, pushR_none, va_rf_some, va_rf_none, true_and, and_true, true_implies, false_implies, not_true_eq_false, not_false_eq_true, implies_true, bI_eq0, bI_eq1, bI_01, Classical.not_not, or_em, false_and, and_false, h1, h1', h2]
      refine L_prod (P := P) (V := V) (T := T) (S := S) (q := q) hS hM0 hL hq (by omega) (by omega) (fun y => ?_) L 0 x11 (by omega)
      have hcl : (nI B).toNatClampNeg = B := nI_clamp (by omega)
      have hin : inX (nI B) 32 = True := eq_true (inX_nI (by decide) (by omega))
      have l2 := and_lt32 (haN S) hd32 B (by omega)
      have hpay : ∀ K, EvD 2 141 [.ref 102, .int s, .int (nI B)] M K = K (some (.int (nI (pvN V T P (hsN S s) (haN S) B)))) M := fun K => by
        rw [c_payOfM (d := 2) (L := L) (P := P) (S := S) (by decide) hS hL hP t1 t2 t6 t7 hs (by omega), t3, t4, payI_N hV hT10 hP (pop5_le _ l2)]
        rfl
      have hple := pvN_le (P := P) hV hT10 hs32 hd32 hsd (show B < 32 by omega)
      have e9 : (nI (pvN V T P (hsN S s) (haN S) B)).toInt64 = lN (pvN V T P (hsN S s) (haN S) B) := nI_l (by omega)
      have e10 : 1000 * lN (pvN V T P (hsN S s) (haN S) B) = lN (1000 * pvN V T P (hsN S s) (haN S) B) := by rw [← lN_mul]; rfl
      have e11 := hw B (by omega)
      have e12 : 1000 * pvN V T P (hsN S s) (haN S) B + w B = bsN (pvN V T P (hsN S s) (haN S)) w B := rfl
      simp +decide only [e_156_94, e_156_96, e_156_98, e_156_101, e_156_102, e_156_103, e_156_105, e_156_108, e_156_109, e_156_110, e_156_111, e_156_114, e_156_116, e_156_117, e_156_118, e_156_119, e_156_120, e_156_122, e_156_125, ↓reduceIte, Int32.reduceAdd, Int32.reduceSub, an_0, an_1, an_2, an_3, an_4, an_5, tc_0, tc_1, tc_2, tc_3, tc_4, tc_5, tc_6, tc_7, tc_8, tc_9, tc_10, tc_11, tc_12, tc_13, tc_14, tc_15, tc_16, tc_17, tc_18, tc_19, tc_20, tc_21, tc_22, tc_23, tc_24, tc_25, tc_26, tc_27, tc_28, tc_29, tc_30, tc_31, tc_32, lcl_none, lcl_int, lcl_ref, lcl_null, lcl_long, okR_nil, okR_int, okR_ref, okR_null, okR_long, pushR_some, pushR_none, va_rf_some, va_rf_none, true_and, and_true, true_implies, false_implies, not_true_eq_false, not_false_eq_true, implies_true, bI_eq0, bI_eq1, bI_01, Classical.not_not, or_em, false_and, and_false, hS.1, hS.2.1, hS.2.2.1, hS.2.2.2.1, kT_102, kT_103, kT_104, kT_105, kT_106, kT_107, kT_108, kT_109, kT_110, kT_111, kT_112, kT_113, kT_114, kT_115, kT_116, kT_117, kT_118, kT_119, kT_120, nT_103, nT_104, nT_105, nT_106, nT_107, nT_108, nT_109, nT_110, nT_111, nT_112, nT_113, nT_114, nT_115, nT_116, nT_117, nT_118, nT_119, nT_120, rT_102_1, rT_102_12, rT_102_13, rT_102_14, rT_102_18, rT_102_19, rT_102_20, rT_102_21, rT_102_22, rT_102_23, rT_102_25, rT_102_26, rT_102_27, rT_102_30, rT_102_31, rT_102_32, rT_102_33, rT_102_34, hcl, hin, hpay, e9, e10, e11, e12, lN_add, lN_mul, nI_1]
      have fin := ih (B + 1) (some (.long (lN (prN (cfN q g h) A B L)))) (some (.int (nI L))) y (by omega)
      rw [es, em] at fin
      exact fin
    · have h2 : (nI B &&& (nI A ^^^ (-1)) = 0) = False := eq_false (fun z => hsub ((and_sub A (by omega) B (by omega)).mp z))
      have em : smT L (cfN q g h) (bsN (pvN V T P (hsN S s) (haN S)) w) A B = 0 := if_neg hsub
      simp +decide only [e_156_8, e_156_9, e_156_12, e_156_14, e_156_15, e_156_16, e_156_17, e_156_18, e_156_122, e_156_125, ↓reduceIte, Int32.reduceAdd, Int32.reduceSub, an_0, an_1, an_2, an_3, an_4, an_5, tc_0, tc_1, tc_2, tc_3, tc_4, tc_5, tc_6, tc_7, tc_8, tc_9, tc_10, tc_11, tc_12, tc_13, tc_14, tc_15, tc_16, tc_17, tc_18, tc_19, tc_20, tc_21, tc_22, tc_23, tc_24, tc_25, tc_26, tc_27, tc_28, tc_29, tc_30, tc_31, tc_32, lcl_none, lcl_int, lcl_ref, lcl_null, lcl_long, okR_nil, okR_int, okR_ref, okR_null, okR_long, pushR_some, pushR_none, va_rf_some, va_rf_none, true_and, and_true, true_implies, false_implies, not_true_eq_false, not_false_eq_true, implies_true, bI_eq0, bI_eq1, bI_01, Classical.not_not, or_em, false_and, and_false, h1, h1', h2, nI_1]
      have fin := ih (B + 1) x8 x10 x11 (by omega)
      rw [es, em, Nat.add_zero (S0 _ _)] at fin
      exact fin
theorem L_dv {A F : Nat} {s g h : Int32} {M : ab_M} {K : ab_Q} {x8 x10 x11 : Option Value} (hA : A < 32) (hF : F < 2 ^ 63) : ∀ m i, i + m = pop5 A → Ev 2 156 131 [some (.ref 102), some (.int s), some (.int (nI A)), some (.int g), some (.int h), some (.long (lN (F / 100 ^ i))), none, some (.int (nI i)), x8, none, x10, x11] [] M K = K (some (.long (lN (F / 100 ^ pop5 A)))) M := by
  have h5 := pop5_le A hA
  have hpop : ∀ K, EvD 2 120 [.int (nI A)] M K = K (some (.int (nI (pop5 A)))) M := fun K => c_popM (d := 2) (by decide) hA
  intro m
  induction m with
  | zero =>
    intro i hi
    have h1 : (nI (pop5 A) ≤ nI i) = True := by rw [nI_leE (by omega) (by omega)]; exact eq_true (by omega)
    rw [e_156_131]
    simp +decide only [e_156_133, e_156_134, e_156_137, e_156_154, e_156_156, ↓reduceIte, Int32.reduceAdd, Int32.reduceSub, an_0, an_1, an_2, an_3, an_4, an_5, tc_0, tc_1, tc_2, tc_3, tc_4, tc_5, tc_6, tc_7, tc_8, tc_9, tc_10, tc_11, tc_12, tc_13, tc_14, tc_15, tc_16, tc_17, tc_18, tc_19, tc_20, tc_21, tc_22, tc_23, tc_24, tc_25, tc_26, tc_27, tc_28, tc_29, tc_30, tc_31, tc_32, lcl_none, lcl_int, lcl_ref, lcl_null, lcl_long, okR_nil, okR_int, okR_ref, okR_null, okR_long, pushR_some, pushR_none, va_rf_some, va_rf_none, true_and, and_true, true_implies, false_implies, not_true_eq_false, not_false_eq_true, implies_true, bI_eq0, bI_eq1, bI_01, Classical.not_not, or_em, false_and, and_false, hpop, h1]
    rw [show i = pop5 A by omega]
  | succ m ih =>
    intro i hi
    have h1 : (nI (pop5 A) ≤ nI i) = False := by rw [nI_leE (by omega) (by omega)]; exact eq_false (by omega)
    have e1 : lN (F / 100 ^ i) / 100 = lN (F / 100 ^ (i + 1)) := by
      rw [show (100 : Int64) = lN 100 from rfl, lN_div (Nat.lt_of_le_of_lt (Nat.div_le_self _ _) hF) (by decide), Nat.div_div_eq_div_mul, Nat.pow_succ]
    rw [e_156_131]
    simp +decide only [e_156_133, e_156_134, e_156_137, e_156_140, e_156_142, e_156_145, e_156_146, e_156_148, e_156_151, ↓reduceIte, Int32.reduceAdd, Int32.reduceSub, an_0, an_1, an_2, an_3, an_4, an_5, tc_0, tc_1, tc_2, tc_3, tc_4, tc_5, tc_6, tc_7, tc_8, tc_9, tc_10, tc_11, tc_12, tc_13, tc_14, tc_15, tc_16, tc_17, tc_18, tc_19, tc_20, tc_21, tc_22, tc_23, tc_24, tc_25, tc_26, tc_27, tc_28, tc_29, tc_30, tc_31, tc_32, lcl_none, lcl_int, lcl_ref, lcl_null, lcl_long, okR_nil, okR_int, okR_ref, okR_null, okR_long, pushR_some, pushR_none, va_rf_some, va_rf_none, true_and, and_true, true_implies, false_implies, not_true_eq_false, not_false_eq_true, implies_true, bI_eq0, bI_eq1, bI_01, Classical.not_not, or_em, false_and, and_false, hpop, h1, e1, nI_1]
    exact ih (i + 1) (by omega)
theorem c_yearM {d L P V T A : Nat} {b : Bool} {q w : Nat → Nat} {S : Nat → Int32} {s g h : Int32} {M : ab_M} {K : ab_Q} (hd : 3 ≤ d) (hS : Sh b M) (hM : MR M L P V q T S) (hp : TRp L P V q (hsN S s) (haN S) T) (hs : s ≠ -1) (hA : A < 2 ^ L) (hw : ∀ B, B < 2 ^ L → mJ M 118 B = lN (w B)) (hb : bfN (cfN q g h) (bsN (pvN V T P (hsN S s) (haN S)) w) L A < 2 ^ 63) (hK : K (some (.long (lN (wyN L (cfN q g h) (pvN V T P (hsN S s) (haN S)) w A)))) M) : EvD d 156 [.ref 102, .int s, .int (nI A), .int g, .int h] M K := by
  rw [b_156 hd]
  simp +decide only [e_156_0, e_156_1, e_156_3, e_156_4, ↓reduceIte, Int32.reduceAdd, Int32.reduceSub, an_0, an_1, an_2, an_3, an_4, an_5, tc_0, tc_1, tc_2, tc_3, tc_4, tc_5, tc_6, tc_7, tc_8, tc_9, tc_10, tc_11, tc_12, tc_13, tc_14, tc_15, tc_16, tc_17, tc_18, tc_19, tc_20, tc_21, tc_22, tc_23, tc_24, tc_25, tc_26, tc_27, tc_28, tc_29, tc_30, tc_31, tc_32, lcl_none, lcl_int, lcl_ref, lcl_null, lcl_long, okR_nil, okR_int, okR_ref, okR_null, okR_long, pushR_some, pushR_none, va_rf_some, va_rf_none, true_and, and_true, true_implies, false_implies, not_true_eq_false, not_false_eq_true, implies_true, bI_eq0, bI_eq1, bI_01, Classical.not_not, or_em, false_and, and_false]
  refine L_sum hS hM hp hs hA hw (fun x8 x10 x11 => ?_) (A + 1) 0 none none none (by omega)
  simp +decide only [e_156_128, e_156_129, ↓reduceIte, Int32.reduceAdd, Int32.reduceSub, an_0, an_1, an_2, an_3, an_4, an_5, tc_0, tc_1, tc_2, tc_3, tc_4, tc_5, tc_6, tc_7, tc_8, tc_9, tc_10, tc_11, tc_12, tc_13, tc_14, tc_15, tc_16, tc_17, tc_18, tc_19, tc_20, tc_21, tc_22, tc_23, tc_24, tc_25, tc_26, tc_27, tc_28, tc_29, tc_30, tc_31, tc_32, lcl_none, lcl_int, lcl_ref, lcl_null, lcl_long, okR_nil, okR_int, okR_ref, okR_null, okR_long, pushR_some, pushR_none, va_rf_some, va_rf_none, true_and, and_true, true_implies, false_implies, not_true_eq_false, not_false_eq_true, implies_true, bI_eq0, bI_eq1, bI_01, Classical.not_not, or_em, false_and, and_false]
  rw [sm_bf hp.1 hA]
  have h32 := pow_L hp.1
  have h9 := L_dv (A := A) (s := s) (g := g) (h := h) (M := M) (K := K) (x8 := x8) (x10 := x10) (x11 := x11) (F := bfN (cfN q g h) (bsN (pvN V T P (hsN S s) (haN S)) w) L A) (by omega) hb (pop5 A) 0 (by omega)
  rw [Nat.pow_zero, Nat.div_one] at h9
  exact Eq.mpr h9 hK
