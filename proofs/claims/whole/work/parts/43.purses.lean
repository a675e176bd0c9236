/-! the sum of the purses -/
def suS (S : Nat → Int32) : Nat → Int32
  | 0 => 0
  | n + 1 => suS S n + S n
theorem suS_z {S : Nat → Int32} {P : Nat} (hP : P ≤ 5) (h : ∀ k, k < 5 → P ≤ k → S k = 0) : suS S 5 = suS S P := by
  have key : ∀ m, P + m ≤ 5 → suS S (P + m) = suS S P := by
    intro m
    induction m with
    | zero => intro _; rfl
    | succ m ih =>
      intro hm
      show suS S (P + m) + S (P + m) = suS S P
      rw [ih (by omega), h (P + m) (by omega) (by omega), Int32.add_zero]
  have e := key (5 - P) (by omega)
  rw [show P + (5 - P) = 5 by omega] at e
  exact e
set_option maxRecDepth 100000 in
theorem c_purC {d : Nat} {b : Bool} {σ : Sg} {M : ab_M} {K : ab_Q} (hd : 1 ≤ d) (hS : Sh b M) (hN : SN M 15 (σ 5)) : EvD d 43 [.ref 15] M K = K (some (.int (suS (σ 5) 5))) M := by
  have h0 : mI M 16 0 = σ 5 0 := hN.1 0 (by decide)
  have h1 : mI M 16 1 = σ 5 1 := hN.1 1 (by decide)
  have h2 : mI M 16 2 = σ 5 2 := hN.1 2 (by decide)
  have h3 : mI M 16 3 = σ 5 3 := hN.1 3 (by decide)
  have h4 : mI M 16 4 = σ 5 4 := hN.1 4 (by decide)
  rw [b_43 hd]
  simp +decide only [e_43_0, e_43_1, e_43_2, e_43_3, e_43_4, e_43_5, e_43_6, e_43_9, e_43_10, e_43_11, e_43_14, e_43_15, e_43_16, e_43_17, e_43_18, e_43_21, e_43_24, e_43_25, ↓reduceIte, Int32.reduceAdd, Int32.reduceSub, an_0, an_1, an_2, an_3, an_4, an_5, tc_0, tc_1, tc_2, tc_3, tc_4, tc_5, tc_6, tc_7, tc_8, tc_9, tc_10, tc_11, tc_12, tc_13, tc_14, tc_15, tc_16, tc_17, tc_18, tc_19, tc_20, tc_21, tc_22, tc_23, tc_24, tc_25, tc_26, tc_27, tc_28, tc_29, tc_30, tc_31, tc_32, lcl_none, lcl_int, lcl_ref, lcl_null, lcl_long, okR_nil, okR_int, okR_ref, okR_null, okR_long, pushR_some, pushR_none, va_rf_some, va_rf_none, true_and, and_true, true_implies, false_implies, not_true_eq_false, not_false_eq_true, implies_true, bI_eq0, bI_eq1, bI_01, Classical.not_not, or_em, false_and, and_false, hS.1, hS.2.1, hS.2.2.1, hS.2.2.2.1, kT_0, kT_1, kT_2, kT_15, kT_16, kT_17, kT_18, kT_19, kT_80, kT_81, kT_82, kT_89, kT_90, kT_91, kT_92, kT_93, kT_94, kT_95, kT_96, kT_97, kT_98, kT_99, kT_100, kT_101, nT_2, nT_16, nT_17, nT_19, nT_81, nT_82, nT_90, nT_91, nT_94, nT_95, nT_97, nT_98, nT_100, nT_101, rT_0_0, rT_0_3, rT_0_4, rT_0_5, rT_0_6, rT_0_7, rT_0_8, rT_0_9, rT_0_10, rT_1_0, rT_15_0, rT_15_1, rT_18_0, rT_80_0, rT_80_1, rT_89_0, rT_89_1, rT_93_6, rT_93_7, rT_96_0, rT_96_1, rT_99_0, rT_99_1, h0, h1, h2, h3, h4]
  rfl
set_option maxRecDepth 100000 in
theorem c_purM {d L P : Nat} {b : Bool} {σ : Sg} {M : ab_M} {K : ab_Q} (hd : 1 ≤ d) (hS : Sh b M) (hM : RM M σ) (hI : IV L P σ) : EvD d 136 [.ref 102] M K = K (some (.int (suS (σ 5) P))) M := by
  obtain ⟨hL, hP, iL, iP⟩ := IV_n hI
  have h17 := hM.1.1.2.1.trans iP
  have key : ∀ m i o, i + m = P → Ev 0 136 4 [some (.ref 102), some (.int (suS (σ 5) i)), some (.int (nI i))] o M K = Ev 0 136 4 [some (.ref 102), some (.int (suS (σ 5) i)), some (.int (nI i))] o M K := fun _ _ _ _ => rfl
  have h0 : mI M 111 0 = σ 5 0 := hM.2.2.1 0 (by decide)
  have h1 : mI M 111 1 = σ 5 1 := hM.2.2.1 1 (by decide)
  have h2 : mI M 111 2 = σ 5 2 := hM.2.2.1 2 (by decide)
  have h3 : mI M 111 3 = σ 5 3 := hM.2.2.1 3 (by decide)
  have h4 : mI M 111 4 = σ 5 4 := hM.2.2.1 4 (by decide)
  rw [b_136 hd]
  clear key
  have : P = 0 ∨ P = 1 ∨ P = 2 ∨ P = 3 ∨ P = 4 ∨ P = 5 := by omega
  have z0 : nI 0 = 0 := by decide
  have z1 : nI 1 = 1 := by decide
  have z2 : nI 2 = 2 := by decide
  have z3 : nI 3 = 3 := by decide
  have z4 : nI 4 = 4 := by decide
  have z5 : nI 5 = 5 := by decide
  rcases this with rfl | rfl | rfl | rfl | rfl | rfl <;> simp only [z0, z1, z2, z3, z4, z5] at h17 <;> simp +decide only [e_136_0, e_136_1, e_136_2, e_136_3, e_136_4, e_136_5, e_136_6, e_136_9, e_136_12, e_136_13, e_136_14, e_136_17, e_136_18, e_136_19, e_136_20, e_136_21, e_136_24, e_136_27, e_136_28, ↓reduceIte, Int32.reduceAdd, Int32.reduceSub, an_0, an_1, an_2, an_3, an_4, an_5, tc_0, tc_1, tc_2, tc_3, tc_4, tc_5, tc_6, tc_7, tc_8, tc_9, tc_10, tc_11, tc_12, tc_13, tc_14, tc_15, tc_16, tc_17, tc_18, tc_19, tc_20, tc_21, tc_22, tc_23, tc_24, tc_25, tc_26, tc_27, tc_28, tc_29, tc_30, tc_31, tc_32, lcl_none, lcl_int, lcl_ref, lcl_null, lcl_long, okR_nil, okR_int, okR_ref, okR_null, okR_long, pushR_some, pushR_none, va_rf_some, va_rf_none, true_and, and_true, true_implies, false_implies, not_true_eq_false, not_false_eq_true, implies_true, bI_eq0, bI_eq1, bI_01, Classical.not_not, or_em, false_and, and_false, hS.1, hS.2.1, hS.2.2.1, hS.2.2.2.1, kT_102, kT_103, kT_104, kT_105, kT_106, kT_107, kT_108, kT_109, kT_110, kT_111, kT_112, kT_113, kT_114, kT_115, kT_116, kT_117, kT_118, kT_119, kT_120, nT_103, nT_104, nT_105, nT_106, nT_107, nT_108, nT_109, nT_110, nT_111, nT_112, nT_113, nT_114, nT_115, nT_116, nT_117, nT_118, nT_119, nT_120, rT_102_1, rT_102_12, rT_102_13, rT_102_14, rT_102_18, rT_102_19, rT_102_20, rT_102_21, rT_102_22, rT_102_23, rT_102_25, rT_102_26, rT_102_27, rT_102_30, rT_102_31, rT_102_32, rT_102_33, rT_102_34, h17, h0, h1, h2, h3, h4] <;> rfl
