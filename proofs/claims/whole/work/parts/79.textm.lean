/-! the model reads -/
def md (M : ab_M) (p ta : Nat) (t : Int32) (nu g : Nat) : ab_M := wI (wI (wI (wI (wI M 102 2 (nI p)) 102 3 (nI ta)) 102 4 t) 102 5 (nI nu)) 102 6 (nI g)
theorem md_o {M : ab_M} {p ta nu g a : Nat} {t : Int32} (h : a ≠ 102) : mI (md M p ta t nu g) a = mI M a := by
  unfold md
  rw [mI_wI_ne h, mI_wI_ne h, mI_wI_ne h, mI_wI_ne h, mI_wI_ne h]
theorem md_i {M : ab_M} {p ta nu g j : Nat} {t : Int32} (h : j < 2 ∨ 6 < j) : mI (md M p ta t nu g) 102 j = mI M 102 j := by
  unfold md
  rw [mI_wI, if_neg (by omega), mI_wI, if_neg (by omega), mI_wI, if_neg (by omega), mI_wI, if_neg (by omega), mI_wI, if_neg (by omega)]
theorem md_2 {M : ab_M} {p ta nu g : Nat} {t : Int32} : mI (md M p ta t nu g) 102 2 = nI p := by simp [md, mI_wI]
theorem md_3 {M : ab_M} {p ta nu g : Nat} {t : Int32} : mI (md M p ta t nu g) 102 3 = nI ta := by simp [md, mI_wI]
theorem md_4 {M : ab_M} {p ta nu g : Nat} {t : Int32} : mI (md M p ta t nu g) 102 4 = t := by simp [md, mI_wI]
theorem md_5 {M : ab_M} {p ta nu g : Nat} {t : Int32} : mI (md M p ta t nu g) 102 5 = nI nu := by simp [md, mI_wI]
theorem md_6 {M : ab_M} {p ta nu g : Nat} {t : Int32} : mI (md M p ta t nu g) 102 6 = nI g := by simp [md, mI_wI]
theorem wI_ov {M : ab_M} {a j : Nat} {v w : Int32} : wI (wI M a j v) a j w = wI M a j w := by
  refine wI_ext ?_ rfl
  funext x y
  simp only [mI_wI]
  by_cases h : x = a ∧ y = j <;> simp [h]
theorem wI_cm {M : ab_M} {a b j i : Nat} {v w : Int32} (h : a ≠ b ∨ j ≠ i) : wI (wI M a j v) b i w = wI (wI M b i w) a j v := by
  refine wI_ext ?_ rfl
  funext x y
  simp only [mI_wI]
  by_cases h1 : x = a ∧ y = j
  · by_cases h2 : x = b ∧ y = i
    · exact absurd h1 (by omega)
    · rw [if_neg h2, if_pos h1, if_pos h1]
  · rw [if_neg h1, if_neg h1]
theorem md_w2 {M : ab_M} {p ta nu g q : Nat} {t : Int32} : wI (md M p ta t nu g) 102 2 (nI q) = md M q ta t nu g := by
  unfold md
  rw [wI_cm (by decide), wI_cm (j := 5) (i := 2) (by decide), wI_cm (j := 4) (i := 2) (by decide), wI_cm (j := 3) (i := 2) (by decide), wI_ov]
theorem md_w3 {M : ab_M} {p ta nu g q : Nat} {t : Int32} : wI (md M p ta t nu g) 102 3 (nI q) = md M p q t nu g := by
  unfold md
  rw [wI_cm (by decide), wI_cm (j := 5) (i := 3) (by decide), wI_cm (j := 4) (i := 3) (by decide), wI_ov]
theorem md_w4 {M : ab_M} {p ta nu g : Nat} {t q : Int32} : wI (md M p ta t nu g) 102 4 q = md M p ta q nu g := by
  unfold md
  rw [wI_cm (by decide), wI_cm (j := 5) (i := 4) (by decide), wI_ov]
theorem md_w5 {M : ab_M} {p ta nu g q : Nat} {t : Int32} : wI (md M p ta t nu g) 102 5 (nI q) = md M p ta t q g := by
  unfold md
  rw [wI_cm (by decide), wI_ov]
theorem md_w6 {M : ab_M} {p ta nu g q : Nat} {t : Int32} : wI (md M p ta t nu g) 102 6 (nI q) = md M p ta t nu q := by
  unfold md
  rw [wI_ov]
theorem md_w50 {M : ab_M} {p ta nu g : Nat} {t : Int32} : wI (md M p ta t nu g) 102 5 0 = md M p ta t 0 g := md_w5 (q := 0)
theorem md_w60 {M : ab_M} {p ta nu g : Nat} {t : Int32} : wI (md M p ta t nu g) 102 6 0 = md M p ta t nu 0 := md_w6 (q := 0)
theorem md_w {M : ab_M} {p ta nu g a j : Nat} {t v : Int32} (h : a ≠ 102 ∨ j < 2 ∨ 6 < j) : wI (md M p ta t nu g) a j v = md (wI M a j v) p ta t nu g := by
  unfold md
  rw [wI_cm (by omega), wI_cm (a := 102) (j := 5) (by omega), wI_cm (a := 102) (j := 4) (by omega), wI_cm (a := 102) (j := 3) (by omega), wI_cm (a := 102) (j := 2) (by omega)]
/-- the text of the model -/
def TM (b : Bool) (M : ab_M) (T : Nat → Int32) (N : Nat) : Prop := Sh b M ∧ mI M 102 0 = nI N ∧ N ≤ 220 ∧ (∀ i, i < 220 → mI M 103 i = T i) ∧ ∀ i, 0 ≤ T i
theorem L_nsk {N : Nat} {b : Bool} {T : Nat → Int32} {ta nu g : Nat} {t : Int32} {M : ab_M} {K : ab_Q} (hT : TM b M T N) : ∀ q p, N - p = q → p ≤ N → Ev 1 125 0 [some (.ref 102)] [] (md M p ta t nu g) K = Ev 1 125 38 [some (.ref 102)] [] (md M (skF T q p) ta t nu g) K := by
  obtain ⟨hS0, h1, hN, ht, -⟩ := hT
  intro q
  induction q with
  | zero =>
    intro p hq hp
    have hS : Sh b (md M p ta t nu g) := hS0
    have e1 : mI (md M p ta t nu g) 102 0 = nI N := by rw [md_i (by decide)]; exact h1
    have z1 : (nI N ≤ nI p) = True := by rw [nI_leE (by omega) (by omega)]; exact eq_true (by omega)
    rw [e_125_0]
    simp +decide only [e_125_1, e_125_4, e_125_5, e_125_8, ↓reduceIte, Int32.reduceAdd, Int32.reduceSub, an_0, an_1, an_2, an_3, an_4, an_5, tc_0, tc_1, tc_2, tc_3, tc_4, tc_5, tc_6, tc_7, tc_8, tc_9, tc_10, tc_11, tc_12, tc_13, tc_14, tc_15, tc_16, tc_17, tc_18, tc_19, tc_20, tc_21, tc_22, tc_23, tc_24, tc_25, tc_26, tc_27, tc_28, tc_29, tc_30, tc_31, tc_32, lcl_none, lcl_int, lcl_ref, lcl_null, lcl_long, okR_nil, okR_int, okR_ref, okR_null, okR_long, pushR_some, pushR_none, va_rf_some, va_rf_none, true_and, and_true, true_implies, false_implies, not_true_eq_false, not_false_eq_true, implies_true, bI_eq0, bI_eq1, bI_01, Classical.not_not, or_em, false_and, and_false, hS.1, hS.2.1, hS.2.2.1, hS.2.2.2.1, kT_102, kT_103, kT_104, kT_105, kT_106, kT_107, kT_108, kT_109, kT_110, kT_111, kT_112, kT_113, kT_114, kT_115, kT_116, kT_117, kT_118, kT_119, kT_120, nT_103, nT_104, nT_105, nT_106, nT_107, nT_108, nT_109, nT_110, nT_111, nT_112, nT_113, nT_114, nT_115, nT_116, nT_117, nT_118, nT_119, nT_120, rT_102_1, rT_102_12, rT_102_13, rT_102_14, rT_102_18, rT_102_19, rT_102_20, rT_102_21, rT_102_22, rT_102_23, rT_102_25, rT_102_26, rT_102_27, rT_102_30, rT_102_31, rT_102_32, rT_102_33, rT_102_34, md_2, e1, z1]
    rfl
  | succ q ih =>
    intro p hq hp
    have hS : Sh b (md M p ta t nu g) := hS0
    have e1 : mI (md M p ta t nu g) 102 0 = nI N := by rw [md_i (by decide)]; exact h1
    have z1 : (nI N ≤ nI p) = False := by rw [nI_leE (by omega) (by omega)]; exact eq_false (by omega)
    have hcl : (nI p).toNatClampNeg = p := nI_clamp (by omega)
    have hin : inX (nI p) 220 = True := eq_true (inX_nI (by decide) (by omega))
    have e2 : mI (md M p ta t nu g) 103 p = T p := by rw [md_o (by decide)]; exact ht p (by omega)
    rw [e_125_0]
    by_cases h32 : T p = 32
    · have h32' : (T p = 32) = True := eq_true h32
      have e : skF T (q + 1) p = skF T q (p + 1) := by show (if T p = 32 then skF T q (p + 1) else p) = _; rw [if_pos h32]
      simp +decide only [e_125_1, e_125_4, e_125_5, e_125_8, e_125_11, e_125_12, e_125_15, e_125_16, e_125_19, e_125_20, e_125_22, e_125_25, e_125_26, e_125_26r, e_125_27, e_125_30, e_125_31, e_125_32, e_125_35, ↓reduceIte, Int32.reduceAdd, Int32.reduceSub, an_0, an_1, an_2, an_3, an_4, an_5, tc_0, tc_1, tc_2, tc_3, tc_4, tc_5, tc_6, tc_7, tc_8, tc_9, tc_10, tc_11, tc_12, tc_13, tc_14, tc_15, tc_16, tc_17, tc_18, tc_19, tc_20, tc_21, tc_22, tc_23, tc_24, tc_25, tc_26, tc_27, tc_28, tc_29, tc_30, tc_31, tc_32, lcl_none, lcl_int, lcl_ref, lcl_null, lcl_long, okR_nil, okR_int, okR_ref, okR_null, okR_long, pushR_some, pushR_none, va_rf_some, va_rf_none, true_and, and_true, true_implies, false_implies, not_true_eq_false, not_false_eq_true, implies_true, bI_eq0, bI_eq1, bI_01, Classical.not_not, or_em, false_and, and_false, hS.1, hS.2.1, hS.2.2.1, hS.2.2.2.1, kT_102, kT_103, kT_104, kT_105, kT_106, kT_107, kT_108, kT_109, kT_110, kT_111, kT_112, kT_113, kT_114, kT_115, kT_116, kT_117, kT_118, kT_119, kT_120, nT_103, nT_104, nT_105, nT_106, nT_107, nT_108, nT_109, nT_110, nT_111, nT_112, nT_113, nT_114, nT_115, nT_116, nT_117, nT_118, nT_119, nT_120, rT_102_1, rT_102_12, rT_102_13, rT_102_14, rT_102_18, rT_102_19, rT_102_20, rT_102_21, rT_102_22, rT_102_23, rT_102_25, rT_102_26, rT_102_27, rT_102_30, rT_102_31, rT_102_32, rT_102_33, rT_102_34, md_2, e1, z1, hcl, hin, e2, h32', nI_1, md_w2]
      rw [e]
      exact ih (p + 1) (by omega) (by omega)
    · have h32' : (T p = 32) = False := eq_false h32
      have e : skF T (q + 1) p = p := by show (if T p = 32 then skF T q (p + 1) else p) = _; rw [if_neg h32]
      simp +decide only [e_125_1, e_125_4, e_125_5, e_125_8, e_125_11, e_125_12, e_125_15, e_125_16, e_125_19, e_125_20, e_125_22, e_125_25, e_125_26, e_125_26r, e_125_27, e_125_30, e_125_31, e_125_32, e_125_35, ↓reduceIte, Int32.reduceAdd, Int32.reduceSub, an_0, an_1, an_2, an_3, an_4, an_5, tc_0, tc_1, tc_2, tc_3, tc_4, tc_5, tc_6, tc_7, tc_8, tc_9, tc_10, tc_11, tc_12, tc_13, tc_14, tc_15, tc_16, tc_17, tc_18, tc_19, tc_20, tc_21, tc_22, tc_23, tc_24, tc_25, tc_26, tc_27, tc_28, tc_29, tc_30, tc_31, tc_32, lcl_none, lcl_int, lcl_ref, lcl_null, lcl_long, okR_nil, okR_int, okR_ref, okR_null, okR_long, pushR_some, pushR_none, va_rf_some, va_rf_none, true_and, and_true, true_implies, false_implies, not_true_eq_false, not_false_eq_true, implies_true, bI_eq0, bI_eq1, bI_01, Classical.not_not, or_em, false_and, and_false, hS.1, hS.2.1, hS.2.2.1, hS.2.2.2.1, kT_102, kT_103, kT_104, kT_105, kT_106, kT_107, kT_108, kT_109, kT_110, kT_111, kT_112, kT_113, kT_114, kT_115, kT_116, kT_117, kT_118, kT_119, kT_120, nT_103, nT_104, nT_105, nT_106, nT_107, nT_108, nT_109, nT_110, nT_111, nT_112, nT_113, nT_114, nT_115, nT_116, nT_117, nT_118, nT_119, nT_120, rT_102_1, rT_102_12, rT_102_13, rT_102_14, rT_102_18, rT_102_19, rT_102_20, rT_102_21, rT_102_22, rT_102_23, rT_102_25, rT_102_26, rT_102_27, rT_102_30, rT_102_31, rT_102_32, rT_102_33, rT_102_34, md_2, e1, z1, hcl, hin, e2, h32']
      rw [e]
theorem L_nrd {N : Nat} {b : Bool} {T : Nat → Int32} {ta : Nat} {t : Int32} {M : ab_M} {K : ab_Q} (hT : TM b M T N) : ∀ q p g v, N - p = q → p ≤ N → g ≤ p → Ev 1 125 95 [some (.ref 102)] [] (md M p ta t v g) K = Ev 1 125 187 [some (.ref 102)] [] (md M (rdF T q p g v).1 ta t (rdF T q p g v).2.2 (rdF T q p g v).2.1) K := by
  obtain ⟨hS0, h1, hN, ht, -⟩ := hT
  have hk : ∀ p ta t nu g, mK (md M p ta t nu g) 102 = 11 := fun _ _ _ _ _ => by show mK M 102 = 11; rw [hS0.1]; rfl
  intro q
  induction q with
  | zero =>
    intro p g v hq hp hg
    have hS : Sh b (md M p ta t v g) := hS0
    have e1 : mI (md M p ta t v g) 102 0 = nI N := by rw [md_i (by decide)]; exact h1
    have z1 : (nI N ≤ nI p) = True := by rw [nI_leE (by omega) (by omega)]; exact eq_true (by omega)
    rw [e_125_95]
    simp +decide only [e_125_96, e_125_99, e_125_100, e_125_103, ↓reduceIte, Int32.reduceAdd, Int32.reduceSub, an_0, an_1, an_2, an_3, an_4, an_5, tc_0, tc_1, tc_2, tc_3, tc_4, tc_5, tc_6, tc_7, tc_8, tc_9, tc_10, tc_11, tc_12, tc_13, tc_14, tc_15, tc_16, tc_17, tc_18, tc_19, tc_20, tc_21, tc_22, tc_23, tc_24, tc_25, tc_26, tc_27, tc_28, tc_29, tc_30, tc_31, tc_32, lcl_none, lcl_int, lcl_ref, lcl_null, lcl_long, okR_nil, okR_int, okR_ref, okR_null, okR_long, pushR_some, pushR_none, va_rf_some, va_rf_none, true_and, and_true, true_implies, false_implies, not_true_eq_false, not_false_eq_true, implies_true, bI_eq0, bI_eq1, bI_01, Classical.not_not, or_em, false_and, and_false, hS.1, hS.2.1, hS.2.2.1, hS.2.2.2.1, kT_102, kT_103, kT_104, kT_105, kT_106, kT_107, kT_108, kT_109, kT_110, kT_111, kT_112, kT_113, kT_114, kT_115, kT_116, kT_117, kT_118, kT_119, kT_120, nT_103, nT_104, nT_105, nT_106, nT_107, nT_108, nT_109, nT_110, nT_111, nT_112, nT_113, nT_114, nT_115, nT_116, nT_117, nT_118, nT_119, nT_120, rT_102_1, rT_102_12, rT_102_13, rT_102_14, rT_102_18, rT_102_19, rT_102_20, rT_102_21, rT_102_22, rT_102_23, rT_102_25, rT_102_26, rT_102_27, rT_102_30, rT_102_31, rT_102_32, rT_102_33, rT_102_34, md_2, e1, z1, rdF]
  | succ q ih =>
    intro p g v hq hp hg
    have hS : Sh b (md M p ta t v g) := hS0
    have e1 : mI (md M p ta t v g) 102 0 = nI N := by rw [md_i (by decide)]; exact h1
    have z1 : (nI N ≤ nI p) = False := by rw [nI_leE (by omega) (by omega)]; exact eq_false (by omega)
    have hcl : (nI p).toNatClampNeg = p := nI_clamp (by omega)
    have hin : inX (nI p) 220 = True := eq_true (inX_nI (by decide) (by omega))
    have e2 : mI (md M p ta t v g) 103 p = T p := by rw [md_o (by decide)]; exact ht p (by omega)
    have er : rdF T (q + 1) p g v = if fig (T p) then rdF T q (p + 1) (g + 1) (if g < 3 then 10 * v + dgN (T p) else v) else (p, g, v) := rfl
    rw [e_125_95]
    by_cases hfg : fig (T p)
    · have hfg' : (48 ≤ T p ∧ T p ≤ 57) = True := eq_true hfg
      obtain ⟨d1, d2⟩ := fig_d hfg
      rw [if_pos hfg] at er
      rw [er]
      by_cases h3 : g < 3
      · have h3' : (3 ≤ nI g) = False := by rw [show (3 : Int32) = nI 3 from rfl, nI_leE (by decide) (by omega)]; exact eq_false (by omega)
        have ev : 10 * nI v + T p - 48 = nI (10 * v + dgN (T p)) := by
          rw [show (10 : Int32) * nI v = nI (10 * v) from pk_mul 10 v, d2, nI_add, show (48 : Int32) = nI 48 from rfl, pk_sub (by omega), ← d2]
          congr 1
          omega
        rw [if_pos h3]
        simp +decide only [e_125_96, e_125_99, e_125_100, e_125_103, e_125_106, e_125_107, e_125_110, e_125_111, e_125_114, e_125_115, e_125_117, e_125_119, e_125_122, e_125_125, e_125_126, e_125_127, e_125_130, e_125_131, e_125_134, e_125_136, e_125_137, e_125_140, e_125_141, e_125_142, e_125_145, e_125_146, e_125_149, e_125_150, e_125_151, e_125_153, e_125_154, e_125_157, e_125_158, e_125_161, e_125_164, e_125_165, e_125_165r, e_125_166, e_125_169, e_125_170, e_125_171, e_125_174, e_125_175, e_125_175r, e_125_176, e_125_179, e_125_180, e_125_181, e_125_184, ↓reduceIte, Int32.reduceAdd, Int32.reduceSub, an_0, an_1, an_2, an_3, an_4, an_5, tc_0, tc_1, tc_2, tc_3, tc_4, tc_5, tc_6, tc_7, tc_8, tc_9, tc_10, tc_11, tc_12, tc_13, tc_14, tc_15, tc_16, tc_17, tc_18, tc_19, tc_20, tc_21, tc_22, tc_23, tc_24, tc_25, tc_26, tc_27, tc_28, tc_29, tc_30, tc_31, tc_32, lcl_none, lcl_int, lcl_ref, lcl_null, lcl_long, okR_nil, okR_int, okR_ref, okR_null, okR_long, pushR_some, pushR_none, va_rf_some, va_rf_none, true_and, and_true, true_implies, false_implies, not_true_eq_false, not_false_eq_true, implies_true, bI_eq0, bI_eq1, bI_01, Classical.not_not, or_em, false_and, and_false, hS.1, hS.2.1, hS.2.2.1, hS.2.2.2.1, kT_102, kT_103, kT_104, kT_105, kT_106, kT_107, kT_108, kT_109, kT_110, kT_111, kT_112, kT_113, kT_114, kT_115, kT_116, kT_117, kT_118, kT_119, kT_120, nT_103, nT_104, nT_105, nT_106, nT_107, nT_108, nT_109, nT_110, nT_111, nT_112, nT_113, nT_114, nT_115, nT_116, nT_117, nT_118, nT_119, nT_120, rT_102_1, rT_102_12, rT_102_13, rT_102_14, rT_102_18, rT_102_19, rT_102_20, rT_102_21, rT_102_22, rT_102_23, rT_102_25, rT_102_26, rT_102_27, rT_102_30, rT_102_31, rT_102_32, rT_102_33, rT_102_34, hk, md_2, md_5, md_6, e1, z1, hcl, hin, e2, c_in (d := 1) (Nat.le_refl 1), hfg', h3', ev, nI_1, md_w2, md_w5, md_w6]
        exact ih (p + 1) (g + 1) (10 * v + dgN (T p)) (by omega) (by omega) (by omega)
      · have h3' : (3 ≤ nI g) = True := by rw [show (3 : Int32) = nI 3 from rfl, nI_leE (by decide) (by omega)]; exact eq_true (by omega)
        rw [if_neg h3]
        simp +decide only [e_125_96, e_125_99, e_125_100, e_125_103, e_125_106, e_125_107, e_125_110, e_125_111, e_125_114, e_125_115, e_125_117, e_125_119, e_125_122, e_125_125, e_125_126, e_125_127, e_125_130, e_125_131, e_125_134, e_125_136, e_125_137, e_125_140, e_125_141, e_125_142, e_125_145, e_125_146, e_125_149, e_125_150, e_125_151, e_125_153, e_125_154, e_125_157, e_125_158, e_125_161, e_125_164, e_125_165, e_125_165r, e_125_166, e_125_169, e_125_170, e_125_171, e_125_174, e_125_175, e_125_175r, e_125_176, e_125_179, e_125_180, e_125_181, e_125_184, ↓reduceIte, Int32.reduceAdd, Int32.reduceSub, an_0, an_1, an_2, an_3, an_4, an_5, tc_0, tc_1, tc_2, tc_3, tc_4, tc_5, tc_6, tc_7, tc_8, tc_9, tc_10, tc_11, tc_12, tc_13, tc_14, tc_15, tc_16, tc_17, tc_18, tc_19, tc_20, tc_21, tc_22, tc_23, tc_24, tc_25, tc_26, tc_27, tc_28, tc_29, tc_30, tc_31, tc_32, lcl_none, lcl_int, lcl_ref, lcl_null, lcl_long, okR_nil, okR_int, okR_ref, okR_null, okR_long, pushR_some, pushR_none, va_rf_some, va_rf_none, true_and, and_true, true_implies, false_implies, not_true_eq_false, not_false_eq_true, implies_true, bI_eq0, bI_eq1, bI_01, Classical.not_not, or_em, false_and, and_false, hS.1, hS.2.1, hS.2.2.1, hS.2.2.2.1, kT_102, kT_103, kT_104, kT_105, kT_106, kT_107, kT_108, kT_109, kT_110, kT_111, kT_112, kT_113, kT_114, kT_115, kT_116, kT_117, kT_118, kT_119, kT_120, nT_103, nT_104, nT_105, nT_106, nT_107, nT_108, nT_109, nT_110, nT_111, nT_112, nT_113, nT_114, nT_115, nT_116, nT_117, nT_118, nT_119, nT_120, rT_102_1, rT_102_12, rT_102_13, rT_102_14, rT_102_18, rT_102_19, rT_102_20, rT_102_21, rT_102_22, rT_102_23, rT_102_25, rT_102_26, rT_102_27, rT_102_30, rT_102_31, rT_102_32, rT_102_33, rT_102_34, hk, md_2, md_5, md_6, e1, z1, hcl, hin, e2, c_in (d := 1) (Nat.le_refl 1), hfg', h3', nI_1, md_w2, md_w5, md_w6]
        exact ih (p + 1) (g + 1) v (by omega) (by omega) (by omega)
    · have hfg' : (48 ≤ T p ∧ T p ≤ 57) = False := eq_false hfg
      rw [if_neg hfg] at er
      rw [er]
      simp +decide only [e_125_96, e_125_99, e_125_100, e_125_103, e_125_106, e_125_107, e_125_110, e_125_111, e_125_114, e_125_115, e_125_117, e_125_119, e_125_122, ↓reduceIte, Int32.reduceAdd, Int32.reduceSub, an_0, an_1, an_2, an_3, an_4, an_5, tc_0, tc_1, tc_2, tc_3, tc_4, tc_5, tc_6, tc_7, tc_8, tc_9, tc_10, tc_11, tc_12, tc_13, tc_14, tc_15, tc_16, tc_17, tc_18, tc_19, tc_20, tc_21, tc_22, tc_23, tc_24, tc_25, tc_26, tc_27, tc_28, tc_29, tc_30, tc_31, tc_32, lcl_none, lcl_int, lcl_ref, lcl_null, lcl_long, okR_nil, okR_int, okR_ref, okR_null, okR_long, pushR_some, pushR_none, va_rf_some, va_rf_none, true_and, and_true, true_implies, false_implies, not_true_eq_false, not_false_eq_true, implies_true, bI_eq0, bI_eq1, bI_01, Classical.not_not, or_em, false_and, and_false, hS.1, hS.2.1, hS.2.2.1, hS.2.2.2.1, kT_102, kT_103, kT_104, kT_105, kT_106, kT_107, kT_108, kT_109, kT_110, kT_111, kT_112, kT_113, kT_114, kT_115, kT_116, kT_117, kT_118, kT_119, kT_120, nT_103, nT_104, nT_105, nT_106, nT_107, nT_108, nT_109, nT_110, nT_111, nT_112, nT_113, nT_114, nT_115, nT_116, nT_117, nT_118, nT_119, nT_120, rT_102_1, rT_102_12, rT_102_13, rT_102_14, rT_102_18, rT_102_19, rT_102_20, rT_102_21, rT_102_22, rT_102_23, rT_102_25, rT_102_26, rT_102_27, rT_102_30, rT_102_31, rT_102_32, rT_102_33, rT_102_34, md_2, e1, z1, hcl, hin, e2, c_in (d := 1) (Nat.le_refl 1), hfg']
def npT (T : Nat → Int32) (N p : Nat) : Nat := if skP T N p < N ∧ ¬ fig (T (skP T N p)) then skP T N p + 1 else npP T N p
def ntT (T : Nat → Int32) (N p : Nat) : Int32 := if skP T N p < N then (if fig (T (skP T N p)) then -1 else T (skP T N p)) else -2
theorem rd_0 {T : Nat → Int32} {N p : Nat} (h : ¬ (skP T N p < N ∧ fig (T (skP T N p)))) : rdP T N p = (skP T N p, 0, 0) := by
  unfold rdP
  cases hf : N - skP T N p with
  | zero => rfl
  | succ f => unfold rdF; rw [if_neg (fun z => h ⟨by omega, z⟩)]
theorem c_next {d p N : Nat} {b : Bool} {T : Nat → Int32} {ta nu g : Nat} {t : Int32} {M : ab_M} {K : ab_Q} (hd : 2 ≤ d) (hT : TM b M T N) (hp : p ≤ N) : EvD d 125 [.ref 102] (md M p ta t nu g) K = K none (md M (npT T N p) (skP T N p) (ntT T N p) (nvP T N p) (ngP T N p)) := by
  have hS0 := hT.1
  have hN := hT.2.2.1
  have hsk := skP_le (T := T) hp
  have hloop := L_nsk (ta := ta) (t := t) (nu := nu) (g := g) (M := M) (K := K) hT (N - p) p rfl hp
  rw [b_125 hd]
  refine hloop.trans ?_
  show Ev 1 125 38 [some (.ref 102)] [] (md M (skP T N p) ta t nu g) K = _
  have hS : Sh b M := hS0
  have hk : ∀ p ta t nu g, mK (md M p ta t nu g) 102 = 11 := fun _ _ _ _ _ => by show mK M 102 = 11; rw [hS.1]; rfl
  have hr0 : ∀ p ta t nu g, mR (md M p ta t nu g) 102 1 = mR M 102 1 := fun _ _ _ _ _ => rfl
  have hk3 : ∀ p ta t nu g, mK (md M p ta t nu g) 103 = mK M 103 := fun _ _ _ _ _ => rfl
  have hn3 : ∀ p ta t nu g, mN (md M p ta t nu g) 103 = mN M 103 := fun _ _ _ _ _ => rfl
  have e1 : ∀ p ta t nu g, mI (md M p ta t nu g) 102 0 = nI N := fun _ _ _ _ _ => by rw [md_i (by decide)]; exact hT.2.1
  by_cases hlt : skP T N p < N
  · have zN : (nI (skP T N p) = nI N) = False := by rw [nI_eqE (by omega) (by omega)]; exact eq_false (by omega)
    have hcl : (nI (skP T N p)).toNatClampNeg = skP T N p := nI_clamp (by omega)
    have hin : inX (nI (skP T N p)) 220 = True := eq_true (inX_nI (by decide) (by omega))
    have e2 : ∀ q ta t nu g, mI (md M q ta t nu g) 103 (skP T N p) = T (skP T N p) := fun _ _ _ _ _ => by rw [md_o (by decide)]; exact hT.2.2.2.1 _ (by omega)
    by_cases hfg : fig (T (skP T N p))
    · have hfg' : (48 ≤ T (skP T N p) ∧ T (skP T N p) ≤ 57) = True := eq_true hfg
      have ep : npT T N p = npP T N p := if_neg (fun z => z.2 hfg)
      have et : ntT T N p = -1 := by unfold ntT; rw [if_pos hlt, if_pos hfg]
      have hrd := L_nrd (ta := skP T N p) (t := t) (M := M) (K := K) hT (N - skP T N p) (skP T N p) 0 0 rfl hsk.2 (by omega)
      simp +decide only [e_125_38, e_125_39, e_125_40, e_125_43, e_125_46, e_125_47, e_125_48, e_125_51, e_125_52, e_125_53, e_125_56, e_125_57, e_125_60, e_125_61, e_125_64, e_125_67, e_125_68, e_125_70, e_125_73, e_125_76, e_125_77, e_125_80, e_125_81, e_125_84, e_125_85, e_125_87, e_125_89, e_125_92, ↓reduceIte, Int32.reduceAdd, Int32.reduceSub, an_0, an_1, an_2, an_3, an_4, an_5, tc_0, tc_1, tc_2, tc_3, tc_4, tc_5, tc_6, tc_7, tc_8, tc_9, tc_10, tc_11, tc_12, tc_13, tc_14, tc_15, tc_16, tc_17, tc_18, tc_19, tc_20, tc_21, tc_22, tc_23, tc_24, tc_25, tc_26, tc_27, tc_28, tc_29, tc_30, tc_31, tc_32, lcl_none, lcl_int, lcl_ref, lcl_null, lcl_long, okR_nil, okR_int, okR_ref, okR_null, okR_long, pushR_some, pushR_none, va_rf_some, va_rf_none, true_and, and_true, true_implies, false_implies, not_true_eq_false, not_false_eq_true, implies_true, bI_eq0, bI_eq1, bI_01, Classical.not_not, or_em, false_and, and_false, hS.1, hS.2.1, hS.2.2.1, kT_102, kT_103, kT_104, kT_105, kT_106, kT_107, kT_108, kT_109, kT_110, kT_111, kT_112, kT_113, kT_114, kT_115, kT_116, kT_117, kT_118, kT_119, kT_120, nT_103, nT_104, nT_105, nT_106, nT_107, nT_108, nT_109, nT_110, nT_111, nT_112, nT_113, nT_114, nT_115, nT_116, nT_117, nT_118, nT_119, nT_120, rT_102_1, rT_102_12, rT_102_13, rT_102_14, rT_102_18, rT_102_19, rT_102_20, rT_102_21, rT_102_22, rT_102_23, rT_102_25, rT_102_26, rT_102_27, rT_102_30, rT_102_31, rT_102_32, rT_102_33, rT_102_34, hk, hr0, hk3, hn3, md_2, e1, md_w3, md_w50, md_w60, zN, hcl, hin, e2, c_in (d := 1) (Nat.le_refl 1), hfg']
      refine hrd.trans ?_
      simp +decide only [e_125_187, e_125_188, e_125_189, e_125_192, e_125_195, e_125_196, e_125_197, e_125_200, e_125_201, e_125_204, e_125_205, e_125_208, e_125_209, e_125_209r, e_125_210, e_125_213, e_125_214, e_125_215, e_125_218, ↓reduceIte, Int32.reduceAdd, Int32.reduceSub, an_0, an_1, an_2, an_3, an_4, an_5, tc_0, tc_1, tc_2, tc_3, tc_4, tc_5, tc_6, tc_7, tc_8, tc_9, tc_10, tc_11, tc_12, tc_13, tc_14, tc_15, tc_16, tc_17, tc_18, tc_19, tc_20, tc_21, tc_22, tc_23, tc_24, tc_25, tc_26, tc_27, tc_28, tc_29, tc_30, tc_31, tc_32, lcl_none, lcl_int, lcl_ref, lcl_null, lcl_long, okR_nil, okR_int, okR_ref, okR_null, okR_long, pushR_some, pushR_none, va_rf_some, va_rf_none, true_and, and_true, true_implies, false_implies, not_true_eq_false, not_false_eq_true, implies_true, bI_eq0, bI_eq1, bI_01, Classical.not_not, or_em, false_and, and_false, hk, md_w4]
      rw [ep, et]
      rfl
    · have hfg' : (48 ≤ T (skP T N p) ∧ T (skP T N p) ≤ 57) = False := eq_false hfg
      have ep : npT T N p = skP T N p + 1 := if_pos ⟨hlt, hfg⟩
      have et : ntT T N p = T (skP T N p) := by unfold ntT; rw [if_pos hlt, if_neg hfg]
      have hr := rd_0 (T := T) (N := N) (p := p) (fun z => hfg z.2)
      have ev : nvP T N p = 0 := by unfold nvP; rw [hr]
      have eg : ngP T N p = 0 := by unfold ngP; rw [hr]
      simp +decide only [e_125_38, e_125_39, e_125_40, e_125_43, e_125_46, e_125_47, e_125_48, e_125_51, e_125_52, e_125_53, e_125_56, e_125_57, e_125_60, e_125_61, e_125_64, e_125_67, e_125_68, e_125_70, e_125_73, e_125_76, e_125_77, e_125_80, e_125_81, e_125_84, e_125_85, e_125_87, e_125_89, e_125_92, e_125_195, e_125_196, e_125_197, e_125_200, e_125_201, e_125_204, e_125_205, e_125_208, e_125_209, e_125_209r, e_125_210, e_125_213, e_125_214, e_125_215, e_125_218, ↓reduceIte, Int32.reduceAdd, Int32.reduceSub, an_0, an_1, an_2, an_3, an_4, an_5, tc_0, tc_1, tc_2, tc_3, tc_4, tc_5, tc_6, tc_7, tc_8, tc_9, tc_10, tc_11, tc_12, tc_13, tc_14, tc_15, tc_16, tc_17, tc_18, tc_19, tc_20, tc_21, tc_22, tc_23, tc_24, tc_25, tc_26, tc_27, tc_28, tc_29, tc_30, tc_31, tc_32, lcl_none, lcl_int, lcl_ref, lcl_null, lcl_long, okR_nil, okR_int, okR_ref, okR_null, okR_long, pushR_some, pushR_none, va_rf_some, va_rf_none, true_and, and_true, true_implies, false_implies, not_true_eq_false, not_false_eq_true, implies_true, bI_eq0, bI_eq1, bI_01, Classical.not_not, or_em, false_and, and_false, hS.1, hS.2.1, hS.2.2.1, kT_102, kT_103, kT_104, kT_105, kT_106, kT_107, kT_108, kT_109, kT_110, kT_111, kT_112, kT_113, kT_114, kT_115, kT_116, kT_117, kT_118, kT_119, kT_120, nT_103, nT_104, nT_105, nT_106, nT_107, nT_108, nT_109, nT_110, nT_111, nT_112, nT_113, nT_114, nT_115, nT_116, nT_117, nT_118, nT_119, nT_120, rT_102_1, rT_102_12, rT_102_13, rT_102_14, rT_102_18, rT_102_19, rT_102_20, rT_102_21, rT_102_22, rT_102_23, rT_102_25, rT_102_26, rT_102_27, rT_102_30, rT_102_31, rT_102_32, rT_102_33, rT_102_34, hk, hr0, hk3, hn3, md_2, e1, md_w3, md_w50, md_w60, zN, hcl, hin, e2, c_in (d := 1) (Nat.le_refl 1), hfg', md_w4, nI_1, md_w2]
      rw [ep, et, ev, eg]
  · have zN : (nI (skP T N p) = nI N) = True := eq_true (by rw [show skP T N p = N by omega])
    have ep : npT T N p = npP T N p := if_neg (fun z => hlt z.1)
    have et : ntT T N p = -2 := by unfold ntT; rw [if_neg hlt]
    have hr := rd_0 (T := T) (N := N) (p := p) (fun z => hlt z.1)
    have en : npP T N p = skP T N p := by unfold npP; rw [hr]
    have ev : nvP T N p = 0 := by unfold nvP; rw [hr]
    have eg : ngP T N p = 0 := by unfold ngP; rw [hr]
    simp +decide only [e_125_38, e_125_39, e_125_40, e_125_43, e_125_46, e_125_47, e_125_48, e_125_51, e_125_52, e_125_53, e_125_56, e_125_57, e_125_60, e_125_61, e_125_64, e_125_67, e_125_68, e_125_70, e_125_73, e_125_218, ↓reduceIte, Int32.reduceAdd, Int32.reduceSub, an_0, an_1, an_2, an_3, an_4, an_5, tc_0, tc_1, tc_2, tc_3, tc_4, tc_5, tc_6, tc_7, tc_8, tc_9, tc_10, tc_11, tc_12, tc_13, tc_14, tc_15, tc_16, tc_17, tc_18, tc_19, tc_20, tc_21, tc_22, tc_23, tc_24, tc_25, tc_26, tc_27, tc_28, tc_29, tc_30, tc_31, tc_32, lcl_none, lcl_int, lcl_ref, lcl_null, lcl_long, okR_nil, okR_int, okR_ref, okR_null, okR_long, pushR_some, pushR_none, va_rf_some, va_rf_none, true_and, and_true, true_implies, false_implies, not_true_eq_false, not_false_eq_true, implies_true, bI_eq0, bI_eq1, bI_01, Classical.not_not, or_em, false_and, and_false, hS.1, hS.2.1, hS.2.2.1, kT_102, kT_103, kT_104, kT_105, kT_106, kT_107, kT_108, kT_109, kT_110, kT_111, kT_112, kT_113, kT_114, kT_115, kT_116, kT_117, kT_118, kT_119, kT_120, nT_103, nT_104, nT_105, nT_106, nT_107, nT_108, nT_109, nT_110, nT_111, nT_112, nT_113, nT_114, nT_115, nT_116, nT_117, nT_118, nT_119, nT_120, rT_102_1, rT_102_12, rT_102_13, rT_102_14, rT_102_18, rT_102_19, rT_102_20, rT_102_21, rT_102_22, rT_102_23, rT_102_25, rT_102_26, rT_102_27, rT_102_30, rT_102_31, rT_102_32, rT_102_33, rT_102_34, hk, hr0, md_2, e1, md_w3, md_w50, md_w60, zN, md_w4]
    rw [ep, et, en, ev, eg]
def fl (M : ab_M) (p ta : Nat) (t : Int32) (nu g : Nat) (kd : Int32) : ab_M := wI (wI (md M p ta t nu g) 102 7 (nI ta)) 102 8 kd
theorem c_fails {d p ta nu g : Nat} {b : Bool} {t kd : Int32} {M : ab_M} {K : ab_Q} (hd : 1 ≤ d) (hS0 : Sh b M) : EvD d 126 [.ref 102, .int kd] (md M p ta t nu g) K = K (some (.int 0)) (fl M p ta t nu g kd) := by
  have hS : Sh b (md M p ta t nu g) := hS0
  rw [b_126 hd]
  simp +decide only [e_126_0, e_126_1, e_126_2, e_126_5, e_126_8, e_126_9, e_126_10, e_126_13, e_126_14, ↓reduceIte, Int32.reduceAdd, Int32.reduceSub, an_0, an_1, an_2, an_3, an_4, an_5, tc_0, tc_1, tc_2, tc_3, tc_4, tc_5, tc_6, tc_7, tc_8, tc_9, tc_10, tc_11, tc_12, tc_13, tc_14, tc_15, tc_16, tc_17, tc_18, tc_19, tc_20, tc_21, tc_22, tc_23, tc_24, tc_25, tc_26, tc_27, tc_28, tc_29, tc_30, tc_31, tc_32, lcl_none, lcl_int, lcl_ref, lcl_null, lcl_long, okR_nil, okR_int, okR_ref, okR_null, okR_long, pushR_some, pushR_none, va_rf_some, va_rf_none, true_and, and_true, true_implies, false_implies, not_true_eq_false, not_false_eq_true, implies_true, bI_eq0, bI_eq1, bI_01, Classical.not_not, or_em, false_and, and_false, hS.1, hS.2.1, hS.2.2.1, hS.2.2.2.1, kT_102, kT_103, kT_104, kT_105, kT_106, kT_107, kT_108, kT_109, kT_110, kT_111, kT_112, kT_113, kT_114, kT_115, kT_116, kT_117, kT_118, kT_119, kT_120, nT_103, nT_104, nT_105, nT_106, nT_107, nT_108, nT_109, nT_110, nT_111, nT_112, nT_113, nT_114, nT_115, nT_116, nT_117, nT_118, nT_119, nT_120, rT_102_1, rT_102_12, rT_102_13, rT_102_14, rT_102_18, rT_102_19, rT_102_20, rT_102_21, rT_102_22, rT_102_23, rT_102_25, rT_102_26, rT_102_27, rT_102_30, rT_102_31, rT_102_32, rT_102_33, rT_102_34, mK_wI, md_3]
  rfl
theorem ntT_m1 {T : Nat → Int32} {N p : Nat} (hp : p ≤ N) (h0 : ∀ i, 0 ≤ T i) : (ntT T N p = -1) = ¬ (ngP T N p = 0) := by
  rw [ng_0 hp]
  unfold ntT
  by_cases h1 : skP T N p < N
  · rw [if_pos h1]
    by_cases h2 : fig (T (skP T N p))
    · simp [h1, h2]
    · rw [if_neg h2]
      simp only [h1, h2, and_false, not_false_eq_true, not_true_eq_false, eq_iff_iff, iff_false]
      intro z
      have h9 := h0 (skP T N p)
      rw [z] at h9
      exact absurd h9 (by decide)
  · rw [if_neg h1]
    simp [h1]
theorem c_isNum0 {d p N : Nat} {b : Bool} {T : Nat → Int32} {ta nu g : Nat} {t most : Int32} {M : ab_M} {K : ab_Q} (hd : 3 ≤ d) (hT : TM b M T N) (hp : p ≤ N) (hk : nkP T N p most = 0) : EvD d 127 [.ref 102, .int most] (md M p ta t nu g) K = K (some (.int 1)) (md M (npP T N p) (skP T N p) (-1) (nvP T N p) (ngP T N p)) := by
  have hS0 := hT.1
  have hN := hT.2.2.1
  have hnp := npP_le (T := T) hp
  have hk11 : ∀ p ta t nu g, mK (md M p ta t nu g) 102 = 11 := fun _ _ _ _ _ => by show mK M 102 = 11; rw [hS0.1]; rfl
  unfold nkP at hk
  by_cases h1 : ngP T N p = 0
  · rw [if_pos h1] at hk; exact absurd hk (by decide)
  · rw [if_neg h1] at hk
    by_cases h2 : 3 < ngP T N p ∨ most < nI (nvP T N p)
    · rw [if_pos h2] at hk; exact absurd hk (by decide)
    · have hm1 := ntT_m1 (p := p) hp hT.2.2.2.2
      have ht : ntT T N p = -1 := by rw [hm1]; exact h1
      have ht' : (ntT T N p = -1) = True := eq_true ht
      have hpp : npT T N p = npP T N p := by
        refine if_neg (fun z => h1 ?_)
        rw [ng_0 hp]
        exact fun y => z.2 y.2
      have h4 : (4 ≤ nI (ngP T N p)) = False := by rw [show (4 : Int32) = nI 4 from rfl, nI_leE (by decide) (by omega)]; exact eq_false (by omega)
      have h5 : (nI (nvP T N p) ≤ most) = True := eq_true (Int32.not_lt.mp (fun z => h2 (Or.inr z)))
      rw [b_127 hd]
      simp +decide only [e_127_0, e_127_1, e_127_4, e_127_5, e_127_8, e_127_9, e_127_12, e_127_13, e_127_14, e_127_17, e_127_18, e_127_19, e_127_22, e_127_23, e_127_26, e_127_27, e_127_30, e_127_31, e_127_34, e_127_35, e_127_36, e_127_39, e_127_42, e_127_43, e_127_46, e_127_47, ↓reduceIte, Int32.reduceAdd, Int32.reduceSub, an_0, an_1, an_2, an_3, an_4, an_5, tc_0, tc_1, tc_2, tc_3, tc_4, tc_5, tc_6, tc_7, tc_8, tc_9, tc_10, tc_11, tc_12, tc_13, tc_14, tc_15, tc_16, tc_17, tc_18, tc_19, tc_20, tc_21, tc_22, tc_23, tc_24, tc_25, tc_26, tc_27, tc_28, tc_29, tc_30, tc_31, tc_32, lcl_none, lcl_int, lcl_ref, lcl_null, lcl_long, okR_nil, okR_int, okR_ref, okR_null, okR_long, pushR_some, pushR_none, va_rf_some, va_rf_none, true_and, and_true, true_implies, false_implies, not_true_eq_false, not_false_eq_true, implies_true, bI_eq0, bI_eq1, bI_01, Classical.not_not, or_em, false_and, and_false, hk11, c_next (d := 2) (Nat.le_refl 2) hT hp, md_4, md_5, md_6, ht', h4, h5]
      rw [hpp, ht]
theorem c_isNum1 {d p N : Nat} {b : Bool} {T : Nat → Int32} {ta nu g : Nat} {t most : Int32} {M : ab_M} {K : ab_Q} (hd : 3 ≤ d) (hT : TM b M T N) (hp : p ≤ N) (hk : nkP T N p most ≠ 0) : EvD d 127 [.ref 102, .int most] (md M p ta t nu g) K = K (some (.int 0)) (fl M (npT T N p) (skP T N p) (ntT T N p) (nvP T N p) (ngP T N p) (nkP T N p most)) := by
  have hS0 := hT.1
  have hN := hT.2.2.1
  have hnp := npP_le (T := T) hp
  have hk11 : ∀ p ta t nu g, mK (md M p ta t nu g) 102 = 11 := fun _ _ _ _ _ => by show mK M 102 = 11; rw [hS0.1]; rfl
  have hm1 := ntT_m1 (p := p) hp hT.2.2.2.2
  by_cases h1 : ngP T N p = 0
  · have ek : nkP T N p most = 1 := by unfold nkP; rw [if_pos h1]
    have ht' : (ntT T N p = -1) = False := by rw [hm1]; exact eq_false (fun z => z h1)
    rw [b_127 hd]
    simp +decide only [e_127_0, e_127_1, e_127_4, e_127_5, e_127_8, e_127_9, e_127_12, e_127_13, e_127_14, e_127_17, e_127_18, e_127_19, e_127_22, e_127_23, e_127_26, e_127_27, e_127_30, e_127_31, e_127_34, e_127_35, e_127_36, e_127_39, e_127_42, e_127_43, e_127_46, e_127_47, ↓reduceIte, Int32.reduceAdd, Int32.reduceSub, an_0, an_1, an_2, an_3, an_4, an_5, tc_0, tc_1, tc_2, tc_3, tc_4, tc_5, tc_6, tc_7, tc_8, tc_9, tc_10, tc_11, tc_12, tc_13, tc_14, tc_15, tc_16, tc_17, tc_18, tc_19, tc_20, tc_21, tc_22, tc_23, tc_24, tc_25, tc_26, tc_27, tc_28, tc_29, tc_30, tc_31, tc_32, lcl_none, lcl_int, lcl_ref, lcl_null, lcl_long, okR_nil, okR_int, okR_ref, okR_null, okR_long, pushR_some, pushR_none, va_rf_some, va_rf_none, true_and, and_true, true_implies, false_implies, not_true_eq_false, not_false_eq_true, implies_true, bI_eq0, bI_eq1, bI_01, Classical.not_not, or_em, false_and, and_false, hk11, c_next (d := 2) (Nat.le_refl 2) hT hp, md_4, ht', c_fails (d := 2) (by decide) hS0]
    rw [ek]
  · have ht' : (ntT T N p = -1) = True := by rw [hm1]; exact eq_true h1
    by_cases h3 : 3 < ngP T N p
    · have ek : nkP T N p most = 2 := by unfold nkP; rw [if_neg h1, if_pos (Or.inl h3)]
      have h4 : (4 ≤ nI (ngP T N p)) = True := by rw [show (4 : Int32) = nI 4 from rfl, nI_leE (by decide) (by omega)]; exact eq_true (by omega)
      rw [b_127 hd]
      simp +decide only [e_127_0, e_127_1, e_127_4, e_127_5, e_127_8, e_127_9, e_127_12, e_127_13, e_127_14, e_127_17, e_127_18, e_127_19, e_127_22, e_127_23, e_127_26, e_127_27, e_127_30, e_127_31, e_127_34, e_127_35, e_127_36, e_127_39, e_127_42, e_127_43, e_127_46, e_127_47, ↓reduceIte, Int32.reduceAdd, Int32.reduceSub, an_0, an_1, an_2, an_3, an_4, an_5, tc_0, tc_1, tc_2, tc_3, tc_4, tc_5, tc_6, tc_7, tc_8, tc_9, tc_10, tc_11, tc_12, tc_13, tc_14, tc_15, tc_16, tc_17, tc_18, tc_19, tc_20, tc_21, tc_22, tc_23, tc_24, tc_25, tc_26, tc_27, tc_28, tc_29, tc_30, tc_31, tc_32, lcl_none, lcl_int, lcl_ref, lcl_null, lcl_long, okR_nil, okR_int, okR_ref, okR_null, okR_long, pushR_some, pushR_none, va_rf_some, va_rf_none, true_and, and_true, true_implies, false_implies, not_true_eq_false, not_false_eq_true, implies_true, bI_eq0, bI_eq1, bI_01, Classical.not_not, or_em, false_and, and_false, hk11, c_next (d := 2) (Nat.le_refl 2) hT hp, md_4, md_6, ht', h4, c_fails (d := 2) (by decide) hS0]
      rw [ek]
    · have h4 : (4 ≤ nI (ngP T N p)) = False := by rw [show (4 : Int32) = nI 4 from rfl, nI_leE (by decide) (by omega)]; exact eq_false (by omega)
      by_cases h5 : most < nI (nvP T N p)
      · have ek : nkP T N p most = 2 := by unfold nkP; rw [if_neg h1, if_pos (Or.inr h5)]
        have h5' : (nI (nvP T N p) ≤ most) = False := eq_false (Int32.not_le.mpr h5)
        rw [b_127 hd]
        simp +decide only [e_127_0, e_127_1, e_127_4, e_127_5, e_127_8, e_127_9, e_127_12, e_127_13, e_127_14, e_127_17, e_127_18, e_127_19, e_127_22, e_127_23, e_127_26, e_127_27, e_127_30, e_127_31, e_127_34, e_127_35, e_127_36, e_127_39, e_127_42, e_127_43, e_127_46, e_127_47, ↓reduceIte, Int32.reduceAdd, Int32.reduceSub, an_0, an_1, an_2, an_3, an_4, an_5, tc_0, tc_1, tc_2, tc_3, tc_4, tc_5, tc_6, tc_7, tc_8, tc_9, tc_10, tc_11, tc_12, tc_13, tc_14, tc_15, tc_16, tc_17, tc_18, tc_19, tc_20, tc_21, tc_22, tc_23, tc_24, tc_25, tc_26, tc_27, tc_28, tc_29, tc_30, tc_31, tc_32, lcl_none, lcl_int, lcl_ref, lcl_null, lcl_long, okR_nil, okR_int, okR_ref, okR_null, okR_long, pushR_some, pushR_none, va_rf_some, va_rf_none, true_and, and_true, true_implies, false_implies, not_true_eq_false, not_false_eq_true, implies_true, bI_eq0, bI_eq1, bI_01, Classical.not_not, or_em, false_and, and_false, hk11, c_next (d := 2) (Nat.le_refl 2) hT hp, md_4, md_5, md_6, ht', h4, h5', c_fails (d := 2) (by decide) hS0]
        rw [ek]
      · exact absurd (by unfold nkP; rw [if_neg h1, if_neg (fun z => z.elim h3 h5)]) hk
theorem fig_59 : ¬ fig 59 := by decide
theorem c_isEnd0 {d p N : Nat} {b : Bool} {T : Nat → Int32} {ta nu g : Nat} {t : Int32} {M : ab_M} {K : ab_Q} (hd : 3 ≤ d) (hT : TM b M T N) (hp : p ≤ N) (hk : ekP T N p = 0) : EvD d 128 [.ref 102] (md M p ta t nu g) K = K (some (.int 1)) (md M (epP T N p) (skP T N p) 59 (nvP T N p) (ngP T N p)) := by
  have hS0 := hT.1
  have hk11 : ∀ p ta t nu g, mK (md M p ta t nu g) 102 = 11 := fun _ _ _ _ _ => by show mK M 102 = 11; rw [hS0.1]; rfl
  have h : skP T N p < N ∧ T (skP T N p) = 59 := by
    by_cases z : skP T N p < N ∧ T (skP T N p) = 59
    · exact z
    · unfold ekP at hk; rw [if_neg z] at hk; exact absurd hk (by decide)
  have hnf : ¬ fig (T (skP T N p)) := by rw [h.2]; exact fig_59
  have ep : npT T N p = epP T N p := by unfold npT epP; rw [if_pos ⟨h.1, hnf⟩, if_pos h]
  have et : ntT T N p = 59 := by unfold ntT; rw [if_pos h.1, if_neg hnf]; exact h.2
  have et' : (ntT T N p = 59) = True := eq_true et
  rw [b_128 hd]
  simp +decide only [e_128_0, e_128_1, e_128_4, e_128_5, e_128_8, e_128_10, e_128_13, e_128_14, e_128_15, e_128_18, e_128_21, e_128_22, e_128_25, e_128_26, ↓reduceIte, Int32.reduceAdd, Int32.reduceSub, an_0, an_1, an_2, an_3, an_4, an_5, tc_0, tc_1, tc_2, tc_3, tc_4, tc_5, tc_6, tc_7, tc_8, tc_9, tc_10, tc_11, tc_12, tc_13, tc_14, tc_15, tc_16, tc_17, tc_18, tc_19, tc_20, tc_21, tc_22, tc_23, tc_24, tc_25, tc_26, tc_27, tc_28, tc_29, tc_30, tc_31, tc_32, lcl_none, lcl_int, lcl_ref, lcl_null, lcl_long, okR_nil, okR_int, okR_ref, okR_null, okR_long, pushR_some, pushR_none, va_rf_some, va_rf_none, true_and, and_true, true_implies, false_implies, not_true_eq_false, not_false_eq_true, implies_true, bI_eq0, bI_eq1, bI_01, Classical.not_not, or_em, false_and, and_false, hk11, c_next (d := 2) (Nat.le_refl 2) hT hp, md_4, et']
  rw [ep, et]
theorem c_isEnd1 {d p N : Nat} {b : Bool} {T : Nat → Int32} {ta nu g : Nat} {t : Int32} {M : ab_M} {K : ab_Q} (hd : 3 ≤ d) (hT : TM b M T N) (hp : p ≤ N) (hk : ekP T N p ≠ 0) : EvD d 128 [.ref 102] (md M p ta t nu g) K = K (some (.int 0)) (fl M (npT T N p) (skP T N p) (ntT T N p) (nvP T N p) (ngP T N p) (ekP T N p)) := by
  have hS0 := hT.1
  have hk11 : ∀ p ta t nu g, mK (md M p ta t nu g) 102 = 11 := fun _ _ _ _ _ => by show mK M 102 = 11; rw [hS0.1]; rfl
  have h : ¬ (skP T N p < N ∧ T (skP T N p) = 59) := fun z => hk (by unfold ekP; rw [if_pos z])
  have ek : ekP T N p = 1 := if_neg h
  have et : ntT T N p ≠ 59 := by
    unfold ntT
    split
    · split
      · decide
      · exact fun z => h ⟨by assumption, z⟩
    · decide
  have et' : (ntT T N p = 59) = False := eq_false et
  rw [b_128 hd]
  simp +decide only [e_128_0, e_128_1, e_128_4, e_128_5, e_128_8, e_128_10, e_128_13, e_128_14, e_128_15, e_128_18, e_128_21, e_128_22, e_128_25, e_128_26, ↓reduceIte, Int32.reduceAdd, Int32.reduceSub, an_0, an_1, an_2, an_3, an_4, an_5, tc_0, tc_1, tc_2, tc_3, tc_4, tc_5, tc_6, tc_7, tc_8, tc_9, tc_10, tc_11, tc_12, tc_13, tc_14, tc_15, tc_16, tc_17, tc_18, tc_19, tc_20, tc_21, tc_22, tc_23, tc_24, tc_25, tc_26, tc_27, tc_28, tc_29, tc_30, tc_31, tc_32, lcl_none, lcl_int, lcl_ref, lcl_null, lcl_long, okR_nil, okR_int, okR_ref, okR_null, okR_long, pushR_some, pushR_none, va_rf_some, va_rf_none, true_and, and_true, true_implies, false_implies, not_true_eq_false, not_false_eq_true, implies_true, bI_eq0, bI_eq1, bI_01, Classical.not_not, or_em, false_and, and_false, hk11, c_next (d := 2) (Nat.le_refl 2) hT hp, md_4, et', c_fails (d := 2) (by decide) hS0]
  rw [ek]
