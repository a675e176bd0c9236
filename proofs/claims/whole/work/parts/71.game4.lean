/-! game, the model -/
theorem M_played {L P j n al x y a b : Nat} {b0 : Bool} {σ : Sg} {M : ab_M} (hS : Sh b0 M) (hM : RM M σ) (hI : IV L P σ) (hal : σ 5 10 = nI al) (haL : al < 2 ^ L) (hj : j < P) (hn : n ≤ 20) (hx : x < 5) (hy : y < 5) (ha : a < 3) (hb : b < 3) : EvD 5 168 [.ref 102, .int (nI j), .int (nI n), .int (nI x), .int (nI y), .int (nI a), .int (nI b)] M (fun r M1 => r = some (.int (nI (guN σ L P j x y n al a b))) ∧ Sh b0 M1 ∧ mI M1 = mI M) := by
  have hP := (IV_n hI).2.1
  have h10 : mI M 111 10 = nI al := (hM.2.2.1 10 (by decide)).trans hal
  have h11 : mI M 111 11 = σ 5 11 := hM.2.2.1 11 (by decide)
  have h12 : mI M 111 12 = σ 5 12 := hM.2.2.1 12 (by decide)
  have sx := shl_nI x hx
  have sy := shl_nI y hy
  have a1 : (nI a = 1) = (a = 1) := nI_eqE (b := 1) (by omega) (by decide)
  have a2 : (nI a = 2) = (a = 2) := nI_eqE (b := 2) (by omega) (by decide)
  have b1 : (nI b = 1) = (b = 1) := nI_eqE (b := 1) (by omega) (by decide)
  have b2 : (nI b = 2) = (b = 2) := nI_eqE (b := 2) (by omega) (by decide)
  have hgo : EvD 4 157 [.ref 102, .int (nI j), .int (nI n), .int (nI al), .int (gdI σ x y a b), .int (hmI σ x y a b)] M (fun r M1 => r = some (.int (nI (guN σ L P j x y n al a b))) ∧ Sh b0 M1 ∧ mI M1 = mI M) := c_worthBy (d := 4) (by decide) hS (MR_of hI hM) (TR_of hI hj) (nI_ne_m1 (by omega)) haL hn
  have hgo2 : EvD 4 157 [.ref 102, .int (nI j), .int (nI n), .int (nI al), .int (gdI σ x y a b), .int (hmI σ x y a b)] M (fun r M1 => Ev 4 168 93 [some (.ref 102), some (.int (nI j)), some (.int (nI n)), some (.int (nI x)), some (.int (nI y)), some (.int (nI a)), some (.int (nI b)), some (.int (gdI σ x y a b)), some (.int (hmI σ x y a b))] (pushR r []) M1 (fun r M1 => r = some (.int (nI (guN σ L P j x y n al a b))) ∧ Sh b0 M1 ∧ mI M1 = mI M)) := by
    refine EvD_mono hgo ?_
    rintro r M1 ⟨rfl, h2, h3⟩
    simp +decide only [e_168_93, ↓reduceIte, Int32.reduceAdd, Int32.reduceSub, an_0, an_1, an_2, an_3, an_4, an_5, tc_0, tc_1, tc_2, tc_3, tc_4, tc_5, tc_6, tc_7, tc_8, tc_9, tc_10, tc_11, tc_12, tc_13, tc_14, tc_15, tc_16, tc_17, tc_18, tc_19, tc_20, tc_21, tc_22, tc_23, tc_24, tc_25, tc_26, tc_27, tc_28, tc_29, tc_30, tc_31, tc_32, lcl_none, lcl_int, lcl_ref, lcl_null, lcl_long, okR_nil, okR_int, okR_ref, okR_null, okR_long, pushR_some, pushR_none, va_rf_some, va_rf_none, true_and, and_true, true_implies, false_implies, not_true_eq_false, not_false_eq_true, implies_true, bI_eq0, bI_eq1, bI_01, Classical.not_not, or_em, false_and, and_false]
    exact ⟨h2, h3⟩
  rw [b_168 (by decide)]
  have ca : a = 0 ∨ a = 1 ∨ a = 2 := by omega
  have cb : b = 0 ∨ b = 1 ∨ b = 2 := by omega
  unfold gdI hmI at hgo2
  rcases ca with rfl | rfl | rfl <;> rcases cb with rfl | rfl | rfl <;> simp +decide only [if_true, if_false] at hgo2 a1 a2 b1 b2 <;> simp +decide only [e_168_0, e_168_1, e_168_4, e_168_6, e_168_7, e_168_9, e_168_10, e_168_13, e_168_14, e_168_15, e_168_16, e_168_19, e_168_20, e_168_21, e_168_23, e_168_24, e_168_27, e_168_28, e_168_30, e_168_31, e_168_34, e_168_35, e_168_36, e_168_38, e_168_39, e_168_42, e_168_44, e_168_45, e_168_47, e_168_48, e_168_51, e_168_52, e_168_54, e_168_55, e_168_58, e_168_59, e_168_60, e_168_62, e_168_63, e_168_66, e_168_67, e_168_68, e_168_69, e_168_72, e_168_73, e_168_74, e_168_76, e_168_77, e_168_78, e_168_79, e_168_80, e_168_83, e_168_85, e_168_86, e_168_88, e_168_90, ↓reduceIte, Int32.reduceAdd, Int32.reduceSub, an_0, an_1, an_2, an_3, an_4, an_5, tc_0, tc_1, tc_2, tc_3, tc_4, tc_5, tc_6, tc_7, tc_8, tc_9, tc_10, tc_11, tc_12, tc_13, tc_14, tc_15, tc_16, tc_17, tc_18, tc_19, tc_20, tc_21, tc_22, tc_23, tc_24, tc_25, tc_26, tc_27, tc_28, tc_29, tc_30, tc_31, tc_32, lcl_none, lcl_int, lcl_ref, lcl_null, lcl_long, okR_nil, okR_int, okR_ref, okR_null, okR_long, pushR_some, pushR_none, va_rf_some, va_rf_none, true_and, and_true, true_implies, false_implies, not_true_eq_false, not_false_eq_true, implies_true, bI_eq0, bI_eq1, bI_01, Classical.not_not, or_em, false_and, and_false, hS.1, hS.2.1, hS.2.2.1, hS.2.2.2.1, kT_102, kT_103, kT_104, kT_105, kT_106, kT_107, kT_108, kT_109, kT_110, kT_111, kT_112, kT_113, kT_114, kT_115, kT_116, kT_117, kT_118, kT_119, kT_120, nT_103, nT_104, nT_105, nT_106, nT_107, nT_108, nT_109, nT_110, nT_111, nT_112, nT_113, nT_114, nT_115, nT_116, nT_117, nT_118, nT_119, nT_120, rT_102_1, rT_102_12, rT_102_13, rT_102_14, rT_102_18, rT_102_19, rT_102_20, rT_102_21, rT_102_22, rT_102_23, rT_102_25, rT_102_26, rT_102_27, rT_102_30, rT_102_31, rT_102_32, rT_102_33, rT_102_34, h10, h11, h12, sx, sy, a1, a2, b1, b2] <;> exact hgo2
theorem L_gr {L P s t n al x y a b : Nat} {i c : Int32} {b0 : Bool} {σ : Sg} {M0 : ab_M} {Q : ab_Q} (hM0 : RM M0 σ) (hI : IV L P σ) (hal : σ 5 10 = nI al) (haL : al < 2 ^ L) (hs : s < P) (ht : t < P) (hn : n ≤ 20) (hx : x < 5) (hy : y < 5) (ha : a < 3) (hb : b < 3) {p : Int32} (hQ : ∀ M1, Sh b0 M1 → mI M1 = mI M0 → Ev 5 170 231 [some (.ref 102), some (.int (nI s)), some (.int (nI t)), some (.int (nI n)), some (.int i), some (.int (nI x)), some (.int (nI y)), some (.int c), some (.int p), some (.int (nI a)), some (.int (nI b)), some (.int (nI (guN σ L P s x y n al a b) - nI (kN σ a))), some (.int (nI (guN σ L P t x y n al a b) - nI (kN σ b))), some (.int (b01 (rsB (xI (guN σ L P s x y n al) (fun a _ => kN σ a)) (xI (guN σ L P t x y n al) (fun _ b => kN σ b)) a b 3))), some (.int 3)] [] M1 Q) : ∀ m j M v, j + m = 3 → v = b01 (rsB (xI (guN σ L P s x y n al) (fun a _ => kN σ a)) (xI (guN σ L P t x y n al) (fun _ b => kN σ b)) a b j) → Sh b0 M → mI M = mI M0 → Ev 5 170 143 [some (.ref 102), some (.int (nI s)), some (.int (nI t)), some (.int (nI n)), some (.int i), some (.int (nI x)), some (.int (nI y)), some (.int c), some (.int p), some (.int (nI a)), some (.int (nI b)), some (.int (nI (guN σ L P s x y n al a b) - nI (kN σ a))), some (.int (nI (guN σ L P t x y n al a b) - nI (kN σ b))), some (.int v), some (.int (nI j))] [] M Q := by
  have us : ∀ a b, guN σ L P s x y n al a b < 2 ^ 30 := fun a b => Nat.lt_trans (wH_30 hI hs hn al haL) (by decide)
  have ut : ∀ a b, guN σ L P t x y n al a b < 2 ^ 30 := fun a b => Nat.lt_trans (wH_30 hI ht hn al haL) (by decide)
  have uk : ∀ a, kN σ a < 2 ^ 30 := fun a => Nat.lt_of_le_of_lt (kN_le hI a) (by decide)
  intro m
  induction m with
  | zero =>
    intro j M v hj hv hS hI2
    have h1 : (3 ≤ nI j) = True := by rw [show j = 3 by omega]; exact eq_true (by decide)
    rw [e_170_143]
    simp +decide only [e_170_145, e_170_146, ↓reduceIte, Int32.reduceAdd, Int32.reduceSub, an_0, an_1, an_2, an_3, an_4, an_5, tc_0, tc_1, tc_2, tc_3, tc_4, tc_5, tc_6, tc_7, tc_8, tc_9, tc_10, tc_11, tc_12, tc_13, tc_14, tc_15, tc_16, tc_17, tc_18, tc_19, tc_20, tc_21, tc_22, tc_23, tc_24, tc_25, tc_26, tc_27, tc_28, tc_29, tc_30, tc_31, tc_32, lcl_none, lcl_int, lcl_ref, lcl_null, lcl_long, okR_nil, okR_int, okR_ref, okR_null, okR_long, pushR_some, pushR_none, va_rf_some, va_rf_none, true_and, and_true, true_implies, false_implies, not_true_eq_false, not_false_eq_true, implies_true, bI_eq0, bI_eq1, bI_01, Classical.not_not, or_em, false_and, and_false, h1]
    rw [hv, show j = 3 by omega]
    exact hQ M hS hI2
  | succ m ih =>
    intro j M v hj hv hS hI2
    have hM : RM M σ := RM_scr hM0 (fun a _ _ => by rw [hI2])
    have h1 : (3 ≤ nI j) = False := by rw [show (3 : Int32) = nI 3 from rfl, nI_leE (by decide) (by omega)]; exact eq_false (by omega)
    have er : rsB (xI (guN σ L P s x y n al) (fun a _ => kN σ a)) (xI (guN σ L P t x y n al) (fun _ b => kN σ b)) a b (j + 1) = (rsB (xI (guN σ L P s x y n al) (fun a _ => kN σ a)) (xI (guN σ L P t x y n al) (fun _ b => kN σ b)) a b j && (decide (xI (guN σ L P s x y n al) (fun a _ => kN σ a) j b ≤ xI (guN σ L P s x y n al) (fun a _ => kN σ a) a b) && decide (xI (guN σ L P t x y n al) (fun _ b => kN σ b) a j ≤ xI (guN σ L P t x y n al) (fun _ b => kN σ b) a b))) := rfl
    rw [e_170_143]
    cases hr : rsB (xI (guN σ L P s x y n al) (fun a _ => kN σ a)) (xI (guN σ L P t x y n al) (fun _ b => kN σ b)) a b j with
    | false =>
      rw [hr] at hv er
      have hv : v = 0 := hv
      simp +decide only [e_170_145, e_170_146, e_170_149, e_170_151, e_170_154, e_170_155, e_170_156, e_170_157, e_170_159, e_170_161, e_170_163, e_170_165, e_170_168, e_170_169, e_170_171, e_170_174, e_170_175, e_170_177, e_170_180, e_170_181, e_170_184, e_170_185, e_170_187, e_170_189, e_170_192, e_170_193, e_170_194, e_170_195, e_170_197, e_170_199, e_170_201, e_170_203, e_170_206, e_170_207, e_170_209, e_170_212, e_170_213, e_170_215, e_170_218, e_170_219, e_170_222, e_170_223, e_170_225, e_170_228, ↓reduceIte, Int32.reduceAdd, Int32.reduceSub, an_0, an_1, an_2, an_3, an_4, an_5, tc_0, tc_1, tc_2, tc_3, tc_4, tc_5, tc_6, tc_7, tc_8, tc_9, tc_10, tc_11, tc_12, tc_13, tc_14, tc_15, tc_16, tc_17, tc_18, tc_19, tc_20, tc_21, tc_22, tc_23, tc_24, tc_25, tc_26, tc_27, tc_28, tc_29, tc_30, tc_31, tc_32, lcl_none, lcl_int, lcl_ref, lcl_null, lcl_long, okR_nil, okR_int, okR_ref, okR_null, okR_long, pushR_some, pushR_none, va_rf_some, va_rf_none, true_and, and_true, true_implies, false_implies, not_true_eq_false, not_false_eq_true, implies_true, bI_eq0, bI_eq1, bI_01, Classical.not_not, or_em, false_and, and_false, h1, hv, nI_1]
      exact ih (j + 1) M 0 (by omega) (by rw [er]; rfl) hS hI2
    | true =>
      rw [hr, Bool.true_and] at er
      rw [hr] at hv
      have hv : v = 1 := hv
      have g1 := mg_cmp3 (us j b) (uk j) (us a b) (uk a)
      have g2 := mg_cmp3 (ut a j) (uk j) (ut a b) (uk b)
      have hk : mK M 102 = 11 := by rw [hS.1]; rfl
      simp +decide only [e_170_145, e_170_146, e_170_149, e_170_151, e_170_154, e_170_155, e_170_156, e_170_157, e_170_159, e_170_161, e_170_163, e_170_165, ↓reduceIte, Int32.reduceAdd, Int32.reduceSub, an_0, an_1, an_2, an_3, an_4, an_5, tc_0, tc_1, tc_2, tc_3, tc_4, tc_5, tc_6, tc_7, tc_8, tc_9, tc_10, tc_11, tc_12, tc_13, tc_14, tc_15, tc_16, tc_17, tc_18, tc_19, tc_20, tc_21, tc_22, tc_23, tc_24, tc_25, tc_26, tc_27, tc_28, tc_29, tc_30, tc_31, tc_32, lcl_none, lcl_int, lcl_ref, lcl_null, lcl_long, okR_nil, okR_int, okR_ref, okR_null, okR_long, pushR_some, pushR_none, va_rf_some, va_rf_none, true_and, and_true, true_implies, false_implies, not_true_eq_false, not_false_eq_true, implies_true, bI_eq0, bI_eq1, bI_01, Classical.not_not, or_em, false_and, and_false, h1, hv, hk]
      refine EvD_mono (M_played hS hM hI hal haL hs hn hx hy (show j < 3 by omega) hb) ?_
      rintro r M1 ⟨rfl, hS1, hI1⟩
      have hM1 : RM M1 σ := RM_scr hM (fun a _ _ => by rw [hI1])
      have hk1 : mK M1 102 = 11 := by rw [hS1.1]; rfl
      by_cases h2 : xI (guN σ L P s x y n al) (fun a _ => kN σ a) j b ≤ xI (guN σ L P s x y n al) (fun a _ => kN σ a) a b
      · have q1 : (nI (guN σ L P s x y n al a b) - nI (kN σ a) < nI (guN σ L P s x y n al j b) - nI (kN σ j)) = False := eq_false (Int32.not_lt.mpr (by rw [g1]; exact h2))
        rw [decide_eq_true h2, Bool.true_and] at er
        simp +decide only [e_170_168, e_170_169, e_170_171, e_170_174, e_170_175, e_170_177, e_170_180, e_170_181, e_170_184, e_170_185, e_170_187, e_170_189, e_170_192, e_170_193, e_170_194, e_170_195, e_170_197, e_170_199, e_170_201, e_170_203, ↓reduceIte, Int32.reduceAdd, Int32.reduceSub, an_0, an_1, an_2, an_3, an_4, an_5, tc_0, tc_1, tc_2, tc_3, tc_4, tc_5, tc_6, tc_7, tc_8, tc_9, tc_10, tc_11, tc_12, tc_13, tc_14, tc_15, tc_16, tc_17, tc_18, tc_19, tc_20, tc_21, tc_22, tc_23, tc_24, tc_25, tc_26, tc_27, tc_28, tc_29, tc_30, tc_31, tc_32, lcl_none, lcl_int, lcl_ref, lcl_null, lcl_long, okR_nil, okR_int, okR_ref, okR_null, okR_long, pushR_some, pushR_none, va_rf_some, va_rf_none, true_and, and_true, true_implies, false_implies, not_true_eq_false, not_false_eq_true, implies_true, bI_eq0, bI_eq1, bI_01, Classical.not_not, or_em, false_and, and_false, hk1, M_cost (d := 5) (by decide) hS1 hM1 hI (show j < 3 by omega), q1]
        refine EvD_mono (M_played hS1 hM1 hI hal haL ht hn hx hy ha (show j < 3 by omega)) ?_
        rintro r M2 ⟨rfl, hS2, hI3⟩
        have hM2 : RM M2 σ := RM_scr hM1 (fun a _ _ => by rw [hI3])
        have hk2 : mK M2 102 = 11 := by rw [hS2.1]; rfl
        by_cases h3 : xI (guN σ L P t x y n al) (fun _ b => kN σ b) a j ≤ xI (guN σ L P t x y n al) (fun _ b => kN σ b) a b
        · have q2 : (nI (guN σ L P t x y n al a b) - nI (kN σ b) < nI (guN σ L P t x y n al a j) - nI (kN σ j)) = False := eq_false (Int32.not_lt.mpr (by rw [g2]; exact h3))
          rw [decide_eq_true h3] at er
          simp +decide only [e_170_206, e_170_207, e_170_209, e_170_212, e_170_213, e_170_215, e_170_218, e_170_219, e_170_222, e_170_223, e_170_225, e_170_228, ↓reduceIte, Int32.reduceAdd, Int32.reduceSub, an_0, an_1, an_2, an_3, an_4, an_5, tc_0, tc_1, tc_2, tc_3, tc_4, tc_5, tc_6, tc_7, tc_8, tc_9, tc_10, tc_11, tc_12, tc_13, tc_14, tc_15, tc_16, tc_17, tc_18, tc_19, tc_20, tc_21, tc_22, tc_23, tc_24, tc_25, tc_26, tc_27, tc_28, tc_29, tc_30, tc_31, tc_32, lcl_none, lcl_int, lcl_ref, lcl_null, lcl_long, okR_nil, okR_int, okR_ref, okR_null, okR_long, pushR_some, pushR_none, va_rf_some, va_rf_none, true_and, and_true, true_implies, false_implies, not_true_eq_false, not_false_eq_true, implies_true, bI_eq0, bI_eq1, bI_01, Classical.not_not, or_em, false_and, and_false, hk2, M_cost (d := 5) (by decide) hS2 hM2 hI (show j < 3 by omega), q2, nI_1]
          exact ih (j + 1) M2 1 (by omega) (by rw [er]; rfl) hS2 (hI3.trans (hI1.trans hI2))
        · have q2 : (nI (guN σ L P t x y n al a b) - nI (kN σ b) < nI (guN σ L P t x y n al a j) - nI (kN σ j)) = True := eq_true (Int32.not_le.mp (by rw [g2]; exact h3))
          rw [decide_eq_false h3] at er
          simp +decide only [e_170_206, e_170_207, e_170_209, e_170_212, e_170_213, e_170_215, e_170_218, e_170_219, e_170_222, e_170_223, e_170_225, e_170_228, ↓reduceIte, Int32.reduceAdd, Int32.reduceSub, an_0, an_1, an_2, an_3, an_4, an_5, tc_0, tc_1, tc_2, tc_3, tc_4, tc_5, tc_6, tc_7, tc_8, tc_9, tc_10, tc_11, tc_12, tc_13, tc_14, tc_15, tc_16, tc_17, tc_18, tc_19, tc_20, tc_21, tc_22, tc_23, tc_24, tc_25, tc_26, tc_27, tc_28, tc_29, tc_30, tc_31, tc_32, lcl_none, lcl_int, lcl_ref, lcl_null, lcl_long, okR_nil, okR_int, okR_ref, okR_null, okR_long, pushR_some, pushR_none, va_rf_some, va_rf_none, true_and, and_true, true_implies, false_implies, not_true_eq_false, not_false_eq_true, implies_true, bI_eq0, bI_eq1, bI_01, Classical.not_not, or_em, false_and, and_false, hk2, M_cost (d := 5) (by decide) hS2 hM2 hI (show j < 3 by omega), q2, nI_1]
          exact ih (j + 1) M2 0 (by omega) (by rw [er]; rfl) hS2 (hI3.trans (hI1.trans hI2))
      · have q1 : (nI (guN σ L P s x y n al a b) - nI (kN σ a) < nI (guN σ L P s x y n al j b) - nI (kN σ j)) = True := eq_true (Int32.not_le.mp (by rw [g1]; exact h2))
        rw [decide_eq_false h2, Bool.false_and] at er
        simp +decide only [e_170_168, e_170_169, e_170_171, e_170_174, e_170_175, e_170_177, e_170_180, e_170_181, e_170_184, e_170_185, e_170_187, e_170_189, e_170_192, e_170_193, e_170_194, e_170_195, e_170_197, e_170_199, e_170_201, e_170_203, e_170_206, e_170_207, e_170_209, e_170_212, e_170_213, e_170_215, e_170_218, e_170_219, e_170_222, e_170_223, e_170_225, e_170_228, ↓reduceIte, Int32.reduceAdd, Int32.reduceSub, an_0, an_1, an_2, an_3, an_4, an_5, tc_0, tc_1, tc_2, tc_3, tc_4, tc_5, tc_6, tc_7, tc_8, tc_9, tc_10, tc_11, tc_12, tc_13, tc_14, tc_15, tc_16, tc_17, tc_18, tc_19, tc_20, tc_21, tc_22, tc_23, tc_24, tc_25, tc_26, tc_27, tc_28, tc_29, tc_30, tc_31, tc_32, lcl_none, lcl_int, lcl_ref, lcl_null, lcl_long, okR_nil, okR_int, okR_ref, okR_null, okR_long, pushR_some, pushR_none, va_rf_some, va_rf_none, true_and, and_true, true_implies, false_implies, not_true_eq_false, not_false_eq_true, implies_true, bI_eq0, bI_eq1, bI_01, Classical.not_not, or_em, false_and, and_false, hk1, M_cost (d := 5) (by decide) hS1 hM1 hI (show j < 3 by omega), q1, nI_1]
        exact ih (j + 1) M1 0 (by omega) (by rw [er]; rfl) hS1 (hI1.trans hI2)
