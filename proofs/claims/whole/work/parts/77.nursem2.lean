/-! nurse, the model: one way is tried -/
theorem L_nD {P k code : Nat} {b : Bool} {W : Nat → Nat} {n w ix tot : Int32} {M0 : ab_M} {Q : ab_Q} (hP0 : 0 < P) (hP : P ≤ 5) (hk : k ≤ 5) (hcode : code < 2 ^ 30) (h17 : mI M0 102 17 = nI P) (hW : ∀ i, i < k → mI M0 120 i = nI (W i) ∧ W i < 32) (hQ : ∀ M1 rr tk, Sh b M1 → (∀ c, c ≠ 119 → mI M1 c = mI M0 c) → (∀ x, x < k → mI M1 119 x = nI (dgt P k code x)) → Ev 6 165 246 [some (.ref 102), some (.int n), some (.int (nI k)), some (.int w), some (.int ix), some (.int tot), some (.int (nI code)), some (.int rr), some (.int tk), some (.int (b01 (okF W (dgt P k code) k 0 0))), some (.int (nI k))] [] M1 Q) : ∀ m i M tk v9 okb, i + m = k → tk < 32 → v9 = b01 okb → okF W (dgt P k code) k 0 0 = (okb && okF W (dgt P k code) m tk i) → Sh b M → (∀ c, c ≠ 119 → mI M c = mI M0 c) → (∀ x, x < i → mI M 119 x = nI (dgt P k code x)) → Ev 6 165 147 [some (.ref 102), some (.int n), some (.int (nI k)), some (.int w), some (.int ix), some (.int tot), some (.int (nI code)), some (.int (nI (P ^ m))), some (.int (nI tk)), some (.int v9), some (.int (nI i))] [] M Q := by
  intro m
  induction m with
  | zero =>
    intro i M tk v9 okb hi ht hv hok hS hf hN
    have h1 : (nI k ≤ nI i) = True := by rw [nI_leE (by omega) (by omega)]; exact eq_true (by omega)
    have hv2 : v9 = b01 (okF W (dgt P k code) k 0 0) := by rw [hok, hv]; simp [okF]
    rw [e_165_147]
    simp +decide only [e_165_149, e_165_150, ↓reduceIte, Int32.reduceAdd, Int32.reduceSub, an_0, an_1, an_2, an_3, an_4, an_5, tc_0, tc_1, tc_2, tc_3, tc_4, tc_5, tc_6, tc_7, tc_8, tc_9, tc_10, tc_11, tc_12, tc_13, tc_14, tc_15, tc_16, tc_17, tc_18, tc_19, tc_20, tc_21, tc_22, tc_23, tc_24, tc_25, tc_26, tc_27, tc_28, tc_29, tc_30, tc_31, tc_32, lcl_none, lcl_int, lcl_ref, lcl_null, lcl_long, okR_nil, okR_int, okR_ref, okR_null, okR_long, pushR_some, pushR_none, va_rf_some, va_rf_none, true_and, and_true, true_implies, false_implies, not_true_eq_false, not_false_eq_true, implies_true, bI_eq0, bI_eq1, bI_01, Classical.not_not, or_em, false_and, and_false, h1]
    have e : i = k := by omega
    subst e
    rw [hv2]
    exact hQ M _ _ hS hf hN
  | succ m ih =>
    intro i M tk v9 okb hi ht hv hok hS hf hN
    have h1 : (nI k ≤ nI i) = False := by rw [nI_leE (by omega) (by omega)]; exact eq_false (by omega)
    have a17 : mI M 102 17 = nI P := by rw [hf 102 (by decide)]; exact h17
    have w120 : mI M 120 i = nI (W i) := by rw [hf 120 (by decide)]; exact (hW i (by omega)).1
    have hWi := (hW i (by omega)).2
    have hpm : 0 < P ^ m := Nat.pow_pos hP0
    have hpl : P ^ m ≤ 5 ^ 5 := Nat.le_trans (Nat.pow_le_pow_left hP m) (Nat.pow_le_pow_right (by decide) (by omega))
    have hpl2 : P ^ (m + 1) ≤ 5 ^ 5 := Nat.le_trans (Nat.pow_le_pow_left hP (m + 1)) (Nat.pow_le_pow_right (by decide) (by omega))
    have zP : (nI P = 0) = False := by rw [nI_0E (by omega)]; exact eq_false (by omega)
    have zR : (nI (P ^ m) = 0) = False := by rw [nI_0E (by omega)]; exact eq_false (by omega)
    have e1 : nI (P ^ (m + 1)) / nI P = nI (P ^ m) := by rw [pk_div (by omega) hP0 (by omega), Nat.pow_succ, Nat.mul_div_cancel _ hP0]
    have hcd : code / P ^ m ≤ code := Nat.div_le_self _ _
    have e2 : nI code / nI (P ^ m) = nI (code / P ^ m) := pk_div (by omega) hpm (by omega)
    have e3 : nI (code / P ^ m) - nI (code / P ^ m) / nI P * nI P = nI (dgt P k code i) := by
      rw [pk_rem (by omega) hP0 (by omega)]
      unfold dgt
      rw [show k - 1 - i = m by omega]
    have hd5 : dgt P k code i < 5 := Nat.lt_of_lt_of_le (Nat.mod_lt _ hP0) hP
    have hcl : (nI i).toNatClampNeg = i := nI_clamp (by omega)
    have hin : inX (nI i) 5 = True := eq_true (inX_nI (by decide) (by omega))
    have hin9 : inX (nI i) 9 = True := eq_true (inX_nI (by decide) (by omega))
    have hb1 := hasB_b (x := W i) (l := dgt P k code i) hWi hd5
    have hb2 := hasB_b (x := tk) (l := dgt P k code i) ht hd5
    have hse := se_nI tk ht (dgt P k code i) hd5
    have hs32 := seN_lt 5 (by decide) tk ht (dgt P k code i) hd5
    have eok : okF W (dgt P k code) (m + 1) tk i = ((bitB (W i) (dgt P k code i) && !bitB tk (dgt P k code i)) && okF W (dgt P k code) m (seN tk (dgt P k code i)) (i + 1)) := rfl
    rw [eok] at hok
    have hf2 : ∀ c, c ≠ 119 → mI (wI M 119 i (nI (dgt P k code i))) c = mI M0 c := fun c hc => by rw [mI_wI_ne hc]; exact hf c hc
    have hN2 : ∀ x, x < i + 1 → mI (wI M 119 i (nI (dgt P k code i))) 119 x = nI (dgt P k code x) := fun x hx => by
      rw [mI_wI]
      by_cases e : x = i
      · rw [if_pos ⟨rfl, e⟩, e]
      · rw [if_neg (fun z => e z.2)]
        exact hN x (by omega)
    have w120' : mI (wI M 119 i (nI (dgt P k code i))) 120 i = nI (W i) := by rw [mI_wI_ne (by decide)]; exact w120
    have n119 : mI (wI M 119 i (nI (dgt P k code i))) 119 i = nI (dgt P k code i) := hN2 i (by omega)
    have hS2 : Sh b (wI M 119 i (nI (dgt P k code i))) := hS
    rw [e_165_147]
    simp +decide only [e_165_149, e_165_150, e_165_153, e_165_155, e_165_156, e_165_159, e_165_160, e_165_162, e_165_163, e_165_166, e_165_168, e_165_170, e_165_172, e_165_173, e_165_174, e_165_177, e_165_178, ↓reduceIte, Int32.reduceAdd, Int32.reduceSub, an_0, an_1, an_2, an_3, an_4, an_5, tc_0, tc_1, tc_2, tc_3, tc_4, tc_5, tc_6, tc_7, tc_8, tc_9, tc_10, tc_11, tc_12, tc_13, tc_14, tc_15, tc_16, tc_17, tc_18, tc_19, tc_20, tc_21, tc_22, tc_23, tc_24, tc_25, tc_26, tc_27, tc_28, tc_29, tc_30, tc_31, tc_32, lcl_none, lcl_int, lcl_ref, lcl_null, lcl_long, okR_nil, okR_int, okR_ref, okR_null, okR_long, pushR_some, pushR_none, va_rf_some, va_rf_none, true_and, and_true, true_implies, false_implies, not_true_eq_false, not_false_eq_true, implies_true, bI_eq0, bI_eq1, bI_01, Classical.not_not, or_em, false_and, and_false, hS.1, hS.2.1, hS.2.2.1, hS.2.2.2.1, kT_102, kT_103, kT_104, kT_105, kT_106, kT_107, kT_108, kT_109, kT_110, kT_111, kT_112, kT_113, kT_114, kT_115, kT_116, kT_117, kT_118, kT_119, kT_120, nT_103, nT_104, nT_105, nT_106, nT_107, nT_108, nT_109, nT_110, nT_111, nT_112, nT_113, nT_114, nT_115, nT_116, nT_117, nT_118, nT_119, nT_120, rT_102_1, rT_102_12, rT_102_13, rT_102_14, rT_102_18, rT_102_19, rT_102_20, rT_102_21, rT_102_22, rT_102_23, rT_102_25, rT_102_26, rT_102_27, rT_102_30, rT_102_31, rT_102_32, rT_102_33, rT_102_34, h1, a17, zP, zR, e1, e2, e3, hcl, hin]
    generalize wI M 119 i (nI (dgt P k code i)) = M2 at hf2 hN2 w120' n119 hS2 ⊢
    cases okb with
    | false =>
      have hv : v9 = 0 := hv
      simp +decide only [e_165_179, e_165_181, e_165_184, e_165_185, e_165_188, e_165_190, e_165_191, e_165_192, e_165_195, e_165_197, e_165_198, e_165_201, e_165_204, e_165_206, e_165_207, e_165_210, e_165_212, e_165_213, e_165_216, e_165_219, e_165_220, e_165_223, e_165_224, e_165_226, e_165_228, e_165_229, e_165_230, e_165_233, e_165_235, e_165_236, e_165_237, e_165_238, e_165_240, e_165_243, ↓reduceIte, Int32.reduceAdd, Int32.reduceSub, an_0, an_1, an_2, an_3, an_4, an_5, tc_0, tc_1, tc_2, tc_3, tc_4, tc_5, tc_6, tc_7, tc_8, tc_9, tc_10, tc_11, tc_12, tc_13, tc_14, tc_15, tc_16, tc_17, tc_18, tc_19, tc_20, tc_21, tc_22, tc_23, tc_24, tc_25, tc_26, tc_27, tc_28, tc_29, tc_30, tc_31, tc_32, lcl_none, lcl_int, lcl_ref, lcl_null, lcl_long, okR_nil, okR_int, okR_ref, okR_null, okR_long, pushR_some, pushR_none, va_rf_some, va_rf_none, true_and, and_true, true_implies, false_implies, not_true_eq_false, not_false_eq_true, implies_true, bI_eq0, bI_eq1, bI_01, Classical.not_not, or_em, false_and, and_false, hS2.1, hS2.2.1, hS2.2.2.1, kT_102, kT_103, kT_104, kT_105, kT_106, kT_107, kT_108, kT_109, kT_110, kT_111, kT_112, kT_113, kT_114, kT_115, kT_116, kT_117, kT_118, kT_119, kT_120, nT_103, nT_104, nT_105, nT_106, nT_107, nT_108, nT_109, nT_110, nT_111, nT_112, nT_113, nT_114, nT_115, nT_116, nT_117, nT_118, nT_119, nT_120, rT_102_1, rT_102_12, rT_102_13, rT_102_14, rT_102_18, rT_102_19, rT_102_20, rT_102_21, rT_102_22, rT_102_23, rT_102_25, rT_102_26, rT_102_27, rT_102_30, rT_102_31, rT_102_32, rT_102_33, rT_102_34, hv, hcl, hin, n119, hse, nI_1]
      exact ih (i + 1) M2 _ 0 false (by omega) hs32 rfl (by rw [hok]; rfl) hS2 hf2 hN2
    | true =>
      have hv : v9 = 1 := hv
      cases hw1 : bitB (W i) (dgt P k code i) with
      | false =>
        rw [hw1] at hb1 hok
        simp +decide only [e_165_179, e_165_181, e_165_184, e_165_185, e_165_188, e_165_190, e_165_191, e_165_192, e_165_195, e_165_197, e_165_198, e_165_201, e_165_204, e_165_206, e_165_207, e_165_210, e_165_212, e_165_213, e_165_216, e_165_219, e_165_220, e_165_223, e_165_224, e_165_226, e_165_228, e_165_229, e_165_230, e_165_233, e_165_235, e_165_236, e_165_237, e_165_238, e_165_240, e_165_243, ↓reduceIte, Int32.reduceAdd, Int32.reduceSub, an_0, an_1, an_2, an_3, an_4, an_5, tc_0, tc_1, tc_2, tc_3, tc_4, tc_5, tc_6, tc_7, tc_8, tc_9, tc_10, tc_11, tc_12, tc_13, tc_14, tc_15, tc_16, tc_17, tc_18, tc_19, tc_20, tc_21, tc_22, tc_23, tc_24, tc_25, tc_26, tc_27, tc_28, tc_29, tc_30, tc_31, tc_32, lcl_none, lcl_int, lcl_ref, lcl_null, lcl_long, okR_nil, okR_int, okR_ref, okR_null, okR_long, pushR_some, pushR_none, va_rf_some, va_rf_none, true_and, and_true, true_implies, false_implies, not_true_eq_false, not_false_eq_true, implies_true, bI_eq0, bI_eq1, bI_01, Classical.not_not, or_em, false_and, and_false, hS2.1, hS2.2.1, hS2.2.2.1, kT_102, kT_103, kT_104, kT_105, kT_106, kT_107, kT_108, kT_109, kT_110, kT_111, kT_112, kT_113, kT_114, kT_115, kT_116, kT_117, kT_118, kT_119, kT_120, nT_103, nT_104, nT_105, nT_106, nT_107, nT_108, nT_109, nT_110, nT_111, nT_112, nT_113, nT_114, nT_115, nT_116, nT_117, nT_118, nT_119, nT_120, rT_102_1, rT_102_12, rT_102_13, rT_102_14, rT_102_18, rT_102_19, rT_102_20, rT_102_21, rT_102_22, rT_102_23, rT_102_25, rT_102_26, rT_102_27, rT_102_30, rT_102_31, rT_102_32, rT_102_33, rT_102_34, hv, hcl, hin, hin9, n119, w120', c_has (d := 6) (by decide), hb1, hse, nI_1]
        exact ih (i + 1) M2 _ 0 false (by omega) hs32 rfl (by rw [hok]; rfl) hS2 hf2 hN2
      | true =>
        rw [hw1] at hb1 hok
        cases hw2 : bitB tk (dgt P k code i) with
        | true =>
          rw [hw2] at hb2 hok
          simp +decide only [e_165_179, e_165_181, e_165_184, e_165_185, e_165_188, e_165_190, e_165_191, e_165_192, e_165_195, e_165_197, e_165_198, e_165_201, e_165_204, e_165_206, e_165_207, e_165_210, e_165_212, e_165_213, e_165_216, e_165_219, e_165_220, e_165_223, e_165_224, e_165_226, e_165_228, e_165_229, e_165_230, e_165_233, e_165_235, e_165_236, e_165_237, e_165_238, e_165_240, e_165_243, ↓reduceIte, Int32.reduceAdd, Int32.reduceSub, an_0, an_1, an_2, an_3, an_4, an_5, tc_0, tc_1, tc_2, tc_3, tc_4, tc_5, tc_6, tc_7, tc_8, tc_9, tc_10, tc_11, tc_12, tc_13, tc_14, tc_15, tc_16, tc_17, tc_18, tc_19, tc_20, tc_21, tc_22, tc_23, tc_24, tc_25, tc_26, tc_27, tc_28, tc_29, tc_30, tc_31, tc_32, lcl_none, lcl_int, lcl_ref, lcl_null, lcl_long, okR_nil, okR_int, okR_ref, okR_null, okR_long, pushR_some, pushR_none, va_rf_some, va_rf_none, true_and, and_true, true_implies, false_implies, not_true_eq_false, not_false_eq_true, implies_true, bI_eq0, bI_eq1, bI_01, Classical.not_not, or_em, false_and, and_false, hS2.1, hS2.2.1, hS2.2.2.1, kT_102, kT_103, kT_104, kT_105, kT_106, kT_107, kT_108, kT_109, kT_110, kT_111, kT_112, kT_113, kT_114, kT_115, kT_116, kT_117, kT_118, kT_119, kT_120, nT_103, nT_104, nT_105, nT_106, nT_107, nT_108, nT_109, nT_110, nT_111, nT_112, nT_113, nT_114, nT_115, nT_116, nT_117, nT_118, nT_119, nT_120, rT_102_1, rT_102_12, rT_102_13, rT_102_14, rT_102_18, rT_102_19, rT_102_20, rT_102_21, rT_102_22, rT_102_23, rT_102_25, rT_102_26, rT_102_27, rT_102_30, rT_102_31, rT_102_32, rT_102_33, rT_102_34, hv, hcl, hin, hin9, n119, w120', c_has (d := 6) (by decide), hb1, hb2, hse, nI_1]
          exact ih (i + 1) M2 _ 0 false (by omega) hs32 rfl (by rw [hok]; rfl) hS2 hf2 hN2
        | false =>
          rw [hw2] at hb2 hok
          simp +decide only [e_165_179, e_165_181, e_165_184, e_165_185, e_165_188, e_165_190, e_165_191, e_165_192, e_165_195, e_165_197, e_165_198, e_165_201, e_165_204, e_165_206, e_165_207, e_165_210, e_165_212, e_165_213, e_165_216, e_165_219, e_165_220, e_165_223, e_165_224, e_165_226, e_165_228, e_165_229, e_165_230, e_165_233, e_165_235, e_165_236, e_165_237, e_165_238, e_165_240, e_165_243, ↓reduceIte, Int32.reduceAdd, Int32.reduceSub, an_0, an_1, an_2, an_3, an_4, an_5, tc_0, tc_1, tc_2, tc_3, tc_4, tc_5, tc_6, tc_7, tc_8, tc_9, tc_10, tc_11, tc_12, tc_13, tc_14, tc_15, tc_16, tc_17, tc_18, tc_19, tc_20, tc_21, tc_22, tc_23, tc_24, tc_25, tc_26, tc_27, tc_28, tc_29, tc_30, tc_31, tc_32, lcl_none, lcl_int, lcl_ref, lcl_null, lcl_long, okR_nil, okR_int, okR_ref, okR_null, okR_long, pushR_some, pushR_none, va_rf_some, va_rf_none, true_and, and_true, true_implies, false_implies, not_true_eq_false, not_false_eq_true, implies_true, bI_eq0, bI_eq1, bI_01, Classical.not_not, or_em, false_and, and_false, hS2.1, hS2.2.1, hS2.2.2.1, kT_102, kT_103, kT_104, kT_105, kT_106, kT_107, kT_108, kT_109, kT_110, kT_111, kT_112, kT_113, kT_114, kT_115, kT_116, kT_117, kT_118, kT_119, kT_120, nT_103, nT_104, nT_105, nT_106, nT_107, nT_108, nT_109, nT_110, nT_111, nT_112, nT_113, nT_114, nT_115, nT_116, nT_117, nT_118, nT_119, nT_120, rT_102_1, rT_102_12, rT_102_13, rT_102_14, rT_102_18, rT_102_19, rT_102_20, rT_102_21, rT_102_22, rT_102_23, rT_102_25, rT_102_26, rT_102_27, rT_102_30, rT_102_31, rT_102_32, rT_102_33, rT_102_34, hv, hcl, hin, hin9, n119, w120', c_has (d := 6) (by decide), hb1, hb2, hse, nI_1]
          exact ih (i + 1) M2 _ 1 true (by omega) hs32 rfl (by rw [hok]; rfl) hS2 hf2 hN2
theorem L_nC {P k : Nat} {b : Bool} {W : Nat → Nat} {n w ix : Int32} {M0 : ab_M} {Q : ab_Q} (hP : P ≤ 5) (hk0 : 0 < k) (hk : k ≤ 5) (h17 : mI M0 102 17 = nI P) (hW : ∀ i, i < k → mI M0 120 i = nI (W i)) (hW2 : ∀ i, W i < 2 ^ P) (hQ : ∀ M1 r, Sh b M1 → (∀ c, c ≠ 119 → mI M1 c = mI M0 c) → (btN W P k 0 0 = none → r = some (.int 0)) → (∀ c, btN W P k 0 0 = some c → r = some (.int 1) ∧ ∀ x, x < k → mI M1 119 x = nI (dgt P k c x)) → Q r M1) : ∀ m code M x7 x8 x9 x10, code + m = P ^ k → (∀ c, c < code → okF W (dgt P k c) k 0 0 = false) → Sh b M → (∀ c, c ≠ 119 → mI M c = mI M0 c) → Ev 6 165 127 [some (.ref 102), some (.int n), some (.int (nI k)), some (.int w), some (.int ix), some (.int (nI (P ^ k))), some (.int (nI code)), x7, x8, x9, x10] [] M Q := by
  have hmain := bt_main (W := W) (k := k) hP hW2 k 0 0 (by omega)
  have hpl : P ^ k ≤ 5 ^ 5 := Nat.le_trans (Nat.pow_le_pow_left hP k) (Nat.pow_le_pow_right (by decide) hk)
  intro m
  induction m with
  | zero =>
    intro code M x7 x8 x9 x10 hc hlow hS hf
    have h1 : (nI (P ^ k) ≤ nI code) = True := by rw [nI_leE (by omega) (by omega)]; exact eq_true (by omega)
    rw [e_165_127]
    simp +decide only [e_165_129, e_165_131, e_165_259, e_165_260, ↓reduceIte, Int32.reduceAdd, Int32.reduceSub, an_0, an_1, an_2, an_3, an_4, an_5, tc_0, tc_1, tc_2, tc_3, tc_4, tc_5, tc_6, tc_7, tc_8, tc_9, tc_10, tc_11, tc_12, tc_13, tc_14, tc_15, tc_16, tc_17, tc_18, tc_19, tc_20, tc_21, tc_22, tc_23, tc_24, tc_25, tc_26, tc_27, tc_28, tc_29, tc_30, tc_31, tc_32, lcl_none, lcl_int, lcl_ref, lcl_null, lcl_long, okR_nil, okR_int, okR_ref, okR_null, okR_long, pushR_some, pushR_none, va_rf_some, va_rf_none, true_and, and_true, true_implies, false_implies, not_true_eq_false, not_false_eq_true, implies_true, bI_eq0, bI_eq1, bI_01, Classical.not_not, or_em, false_and, and_false, h1]
    refine hQ M _ hS hf (fun _ => rfl) (fun c hb => ?_)
    obtain ⟨g1, g2, -⟩ := hmain.1 c hb
    rw [hlow c (by omega)] at g2
    exact absurd g2 (by decide)
  | succ m ih =>
    intro code M x7 x8 x9 x10 hc hlow hS hf
    have h1 : (nI (P ^ k) ≤ nI code) = False := by rw [nI_leE (by omega) (by omega)]; exact eq_false (by omega)
    have hP0 : 0 < P := by
      by_cases e : P = 0
      · subst e; rw [Nat.zero_pow hk0] at hc; omega
      · omega
    rw [e_165_127]
    simp +decide only [e_165_129, e_165_131, e_165_134, e_165_136, e_165_138, e_165_139, e_165_141, e_165_142, e_165_144, e_165_145, ↓reduceIte, Int32.reduceAdd, Int32.reduceSub, an_0, an_1, an_2, an_3, an_4, an_5, tc_0, tc_1, tc_2, tc_3, tc_4, tc_5, tc_6, tc_7, tc_8, tc_9, tc_10, tc_11, tc_12, tc_13, tc_14, tc_15, tc_16, tc_17, tc_18, tc_19, tc_20, tc_21, tc_22, tc_23, tc_24, tc_25, tc_26, tc_27, tc_28, tc_29, tc_30, tc_31, tc_32, lcl_none, lcl_int, lcl_ref, lcl_null, lcl_long, okR_nil, okR_int, okR_ref, okR_null, okR_long, pushR_some, pushR_none, va_rf_some, va_rf_none, true_and, and_true, true_implies, false_implies, not_true_eq_false, not_false_eq_true, implies_true, bI_eq0, bI_eq1, bI_01, Classical.not_not, or_em, false_and, and_false, h1]
    refine L_nD (M0 := M) (W := W) hP0 hP hk (by omega) (by rw [hf 102 (by decide)]; exact h17) (fun i hi => ⟨by rw [hf 120 (by decide)]; exact hW i hi, Nat.lt_of_lt_of_le (hW2 i) (pow_L hP)⟩) (fun M1 rr tk hS1 hf1 hN1 => ?_) k 0 M 0 1 true (by omega) (by decide) rfl (by rw [Bool.true_and]) hS (fun _ _ => rfl) (fun x hx => absurd hx (Nat.not_lt_zero x))
    have hf2 : ∀ c, c ≠ 119 → mI M1 c = mI M0 c := fun c hc => by rw [hf1 c hc, hf c hc]
    cases ho : okF W (dgt P k code) k 0 0 with
    | true =>
      simp +decide only [e_165_246, e_165_248, e_165_251, e_165_252, ↓reduceIte, Int32.reduceAdd, Int32.reduceSub, an_0, an_1, an_2, an_3, an_4, an_5, tc_0, tc_1, tc_2, tc_3, tc_4, tc_5, tc_6, tc_7, tc_8, tc_9, tc_10, tc_11, tc_12, tc_13, tc_14, tc_15, tc_16, tc_17, tc_18, tc_19, tc_20, tc_21, tc_22, tc_23, tc_24, tc_25, tc_26, tc_27, tc_28, tc_29, tc_30, tc_31, tc_32, lcl_none, lcl_int, lcl_ref, lcl_null, lcl_long, okR_nil, okR_int, okR_ref, okR_null, okR_long, pushR_some, pushR_none, va_rf_some, va_rf_none, true_and, and_true, true_implies, false_implies, not_true_eq_false, not_false_eq_true, implies_true, bI_eq0, bI_eq1, bI_01, Classical.not_not, or_em, false_and, and_false, b01, cond_true]
      have hcs : btN W P k 0 0 = some code := by
        cases hb : btN W P k 0 0 with
        | none => rw [hmain.2 hb code (by omega)] at ho; exact absurd ho (by decide)
        | some c =>
          obtain ⟨g1, g2, g3⟩ := hmain.1 c hb
          rcases Nat.lt_trichotomy c code with g | g | g
          · rw [hlow c g] at g2; exact absurd g2 (by decide)
          · rw [g]
          · rw [g3 code g] at ho; exact absurd ho (by decide)
      exact hQ M1 _ hS1 hf2 (fun h => by rw [hcs] at h; exact absurd h (by simp)) (fun c h => by
        rw [hcs] at h
        have h : code = c := by simpa using h
        rw [← h]
        exact ⟨rfl, hN1⟩)
    | false =>
      simp +decide only [e_165_246, e_165_248, e_165_251, e_165_252, e_165_253, e_165_256, ↓reduceIte, Int32.reduceAdd, Int32.reduceSub, an_0, an_1, an_2, an_3, an_4, an_5, tc_0, tc_1, tc_2, tc_3, tc_4, tc_5, tc_6, tc_7, tc_8, tc_9, tc_10, tc_11, tc_12, tc_13, tc_14, tc_15, tc_16, tc_17, tc_18, tc_19, tc_20, tc_21, tc_22, tc_23, tc_24, tc_25, tc_26, tc_27, tc_28, tc_29, tc_30, tc_31, tc_32, lcl_none, lcl_int, lcl_ref, lcl_null, lcl_long, okR_nil, okR_int, okR_ref, okR_null, okR_long, pushR_some, pushR_none, va_rf_some, va_rf_none, true_and, and_true, true_implies, false_implies, not_true_eq_false, not_false_eq_true, implies_true, bI_eq0, bI_eq1, bI_01, Classical.not_not, or_em, false_and, and_false, b01, cond_false, nI_1]
      refine ih (code + 1) M1 _ _ _ _ (by omega) (fun c hc => ?_) hS1 hf2
      by_cases e : c = code
      · rw [e]; exact ho
      · exact hlow c (by omega)
theorem C_lay {L P a n : Nat} {b : Bool} {σ : Sg} {M : ab_M} (hS : Sh b M) (hM : RM M σ) (hI : IV L P σ) (ha : σ 5 10 = nI a) (haL : a < 2 ^ L) (hn : n ≤ 20) (hk0 : 0 < plN a 5) : EvD 7 165 [.ref 102, .int (nI n)] M (fun r M1 => Sh b M1 ∧ (∀ c, c < 119 → mI M1 c = mI M c) ∧ (btN (fun i => nuU σ L P n a (lfI a i)) P (plN a 5) 0 0 = none → r = some (.int 0)) ∧ ∀ c, btN (fun i => nuU σ L P n a (lfI a i)) P (plN a 5) 0 0 = some c → r = some (.int 1) ∧ ∀ x, x < plN a 5 → mI M1 119 x = nI (dgt P (plN a 5) c x)) := by
  obtain ⟨hL, hP, iL, iP⟩ := IV_n hI
  have h32 := pow_L hL
  have h10 : mI M 111 10 = nI a := (hM.2.2.1 10 (by decide)).trans ha
  have hp5 : plN a 5 = pop5 a := plN_pop (L := 5) (Nat.le_refl 5) (Nat.lt_of_lt_of_le haL h32)
  have hpL : plN a L = pop5 a := plN_pop hL haL
  have hle := pop5_le a (by omega)
  rw [b_165 (by decide)]
  simp +decide only [e_165_0, e_165_1, e_165_4, e_165_6, e_165_7, e_165_10, e_165_11, e_165_12, e_165_13, e_165_14, e_165_16, e_165_17, ↓reduceIte, Int32.reduceAdd, Int32.reduceSub, an_0, an_1, an_2, an_3, an_4, an_5, tc_0, tc_1, tc_2, tc_3, tc_4, tc_5, tc_6, tc_7, tc_8, tc_9, tc_10, tc_11, tc_12, tc_13, tc_14, tc_15, tc_16, tc_17, tc_18, tc_19, tc_20, tc_21, tc_22, tc_23, tc_24, tc_25, tc_26, tc_27, tc_28, tc_29, tc_30, tc_31, tc_32, lcl_none, lcl_int, lcl_ref, lcl_null, lcl_long, okR_nil, okR_int, okR_ref, okR_null, okR_long, pushR_some, pushR_none, va_rf_some, va_rf_none, true_and, and_true, true_implies, false_implies, not_true_eq_false, not_false_eq_true, implies_true, bI_eq0, bI_eq1, bI_01, Classical.not_not, or_em, false_and, and_false, hS.1, hS.2.1, hS.2.2.1, hS.2.2.2.1, kT_102, kT_103, kT_104, kT_105, kT_106, kT_107, kT_108, kT_109, kT_110, kT_111, kT_112, kT_113, kT_114, kT_115, kT_116, kT_117, kT_118, kT_119, kT_120, nT_103, nT_104, nT_105, nT_106, nT_107, nT_108, nT_109, nT_110, nT_111, nT_112, nT_113, nT_114, nT_115, nT_116, nT_117, nT_118, nT_119, nT_120, rT_102_1, rT_102_12, rT_102_13, rT_102_14, rT_102_18, rT_102_19, rT_102_20, rT_102_21, rT_102_22, rT_102_23, rT_102_25, rT_102_26, rT_102_27, rT_102_30, rT_102_31, rT_102_32, rT_102_33, rT_102_34, h10, c_popM (d := 6) (by decide) (show a < 32 by omega)]
  refine L_nA (M0 := M) hM hI ha haL hn (fun M1 w ix x6 hS1 hf1 hA1 => ?_) L 0 M 0 none (by omega) hS (fun _ _ => rfl) (fun i hi => absurd hi (Nat.not_lt_zero i))
  simp +decide only [e_165_97, e_165_98, e_165_100, e_165_101, ↓reduceIte, Int32.reduceAdd, Int32.reduceSub, an_0, an_1, an_2, an_3, an_4, an_5, tc_0, tc_1, tc_2, tc_3, tc_4, tc_5, tc_6, tc_7, tc_8, tc_9, tc_10, tc_11, tc_12, tc_13, tc_14, tc_15, tc_16, tc_17, tc_18, tc_19, tc_20, tc_21, tc_22, tc_23, tc_24, tc_25, tc_26, tc_27, tc_28, tc_29, tc_30, tc_31, tc_32, lcl_none, lcl_int, lcl_ref, lcl_null, lcl_long, okR_nil, okR_int, okR_ref, okR_null, okR_long, pushR_some, pushR_none, va_rf_some, va_rf_none, true_and, and_true, true_implies, false_implies, not_true_eq_false, not_false_eq_true, implies_true, bI_eq0, bI_eq1, bI_01, Classical.not_not, or_em, false_and, and_false]
  have h17 : mI M1 102 17 = nI P := by rw [hf1 102 (by decide)]; exact hM.1.1.2.1.trans iP
  refine L_nT (k := pop5 a) hS1 hle h17 ?_ (pop5 a) 0 (by omega)
  simp +decide only [e_165_124, e_165_125, ↓reduceIte, Int32.reduceAdd, Int32.reduceSub, an_0, an_1, an_2, an_3, an_4, an_5, tc_0, tc_1, tc_2, tc_3, tc_4, tc_5, tc_6, tc_7, tc_8, tc_9, tc_10, tc_11, tc_12, tc_13, tc_14, tc_15, tc_16, tc_17, tc_18, tc_19, tc_20, tc_21, tc_22, tc_23, tc_24, tc_25, tc_26, tc_27, tc_28, tc_29, tc_30, tc_31, tc_32, lcl_none, lcl_int, lcl_ref, lcl_null, lcl_long, okR_nil, okR_int, okR_ref, okR_null, okR_long, pushR_some, pushR_none, va_rf_some, va_rf_none, true_and, and_true, true_implies, false_implies, not_true_eq_false, not_false_eq_true, implies_true, bI_eq0, bI_eq1, bI_01, Classical.not_not, or_em, false_and, and_false]
  rw [hp5]
  refine L_nC (M0 := M1) (W := fun i => nuU σ L P n a (lfI a i)) hP (by omega) hle h17 (fun i hi => hA1 i (by omega)) (fun i => setN_lt _ P) (fun M2 r hS2 hf2 h1 h2 => ⟨hS2, fun c hc => by rw [hf2 c (by omega), hf1 c (by omega)], h1, h2⟩) (P ^ pop5 a) 0 M1 _ _ _ _ (by omega) (fun c hc => absurd hc (Nat.not_lt_zero c)) hS1 (fun _ _ => rfl)
theorem lowm : ∀ a, a < 32 → ∀ l, l < 5 → nI a &&& ((1 : Int32) <<< (nI l &&& 31) - 1) = nI (a % 2 ^ l) := by decide +kernel
theorem lowp : ∀ a, a < 32 → ∀ l, l < 5 → pop5 (a % 2 ^ l) = plN a l := by decide +kernel
theorem op_nurse (l n : Int32) (M : ab_M) (hM : Rel M) : lwStep Rel 91 166 [l, n] M := by
  obtain ⟨b, σ, L, P, hS, hC, hMo, hI⟩ := hM
  obtain ⟨hL, hP, iL, iP⟩ := IV_n hI
  obtain ⟨a, ha32, haL, ha⟩ := IV_al hI
  have h32 := pow_L hL
  have a1 := hC.1.1.1
  by_cases hl : 0 ≤ l ∧ l < nI L
  · have hy : (0 ≤ l ∧ l < σ 0 0) = True := by rw [iL]; exact eq_true hl
    have hym : ∀ M1, RM M1 σ → (0 ≤ l ∧ l ≤ mI M1 102 16 - 1) = True := fun M1 h => by rw [h.1.1.1, iL, ix_pred hL]; exact eq_true hl
    obtain ⟨i, hi, rfl⟩ := of_ix (by omega) hl
    by_cases hn : 1 ≤ n ∧ n ≤ 20
    · have hnx : (1 ≤ n ∧ n ≤ 20) = True := eq_true hn
      obtain ⟨k, hk, rfl⟩ := of_20 ⟨Int32.le_trans (by decide) hn.1, hn.2⟩
      have hbl := hasB_b (x := a) (l := i) ha32 (by omega)
      have hC1 : ∀ K : ab_Q, (∀ M1, Sh b M1 → (∀ c, c ≠ 93 → c ≠ 97 → c ≠ 98 → mI M1 c = mI M c) → (∀ l, l < 5 → mI M1 97 l = nI (nuU σ L P k a l)) → Ev 9 91 117 [some (.ref 0), some (.int (nI i)), some (.int (nI k)), some (.int (nI P))] [] M1 K) → EvD 20 91 [.ref 0, .int (nI i), .int (nI k)] M K := by
        intro K hK
        rw [b_91 (by decide)]
        simp +decide only [e_91_0, e_91_1, e_91_4, e_91_5, e_91_8, e_91_11, e_91_13, e_91_14, e_91_15, e_91_18, e_91_21, e_91_23, e_91_24, e_91_25, e_91_28, ↓reduceIte, Int32.reduceAdd, Int32.reduceSub, an_0, an_1, an_2, an_3, an_4, an_5, tc_0, tc_1, tc_2, tc_3, tc_4, tc_5, tc_6, tc_7, tc_8, tc_9, tc_10, tc_11, tc_12, tc_13, tc_14, tc_15, tc_16, tc_17, tc_18, tc_19, tc_20, tc_21, tc_22, tc_23, tc_24, tc_25, tc_26, tc_27, tc_28, tc_29, tc_30, tc_31, tc_32, lcl_none, lcl_int, lcl_ref, lcl_null, lcl_long, okR_nil, okR_int, okR_ref, okR_null, okR_long, pushR_some, pushR_none, va_rf_some, va_rf_none, true_and, and_true, true_implies, false_implies, not_true_eq_false, not_false_eq_true, implies_true, bI_eq0, bI_eq1, bI_01, Classical.not_not, or_em, false_and, and_false, hS.1, hS.2.1, hS.2.2.1, hS.2.2.2.1, kT_0, kT_1, kT_2, kT_15, kT_16, kT_17, kT_18, kT_19, kT_80, kT_81, kT_82, kT_89, kT_90, kT_91, kT_92, kT_93, kT_94, kT_95, kT_96, kT_97, kT_98, kT_99, kT_100, kT_101, nT_2, nT_16, nT_17, nT_19, nT_81, nT_82, nT_90, nT_91, nT_94, nT_95, nT_97, nT_98, nT_100, nT_101, rT_0_0, rT_0_3, rT_0_4, rT_0_5, rT_0_6, rT_0_7, rT_0_8, rT_0_9, rT_0_10, rT_1_0, rT_15_0, rT_15_1, rT_18_0, rT_80_0, rT_80_1, rT_89_0, rT_89_1, rT_93_6, rT_93_7, rT_96_0, rT_96_1, rT_99_0, rT_99_1, chS1, chK, chR7, chK7, chN7, chR8, chK8, chN8, chR9, chK9, chN9, chR10, chK10, chN10, chR11, chK11, chN11, c_hasLife (d := 9) (by decide), c_mayBeTried (d := 9) (by decide), a1, hy, hnx]
        refine EvD_mono (c_clear (d := 9) (by decide) hS) ?_
        rintro r M1 ⟨rfl, hS1, hf1, hz1⟩
        simp +decide only [e_91_31, e_91_32, ↓reduceIte, Int32.reduceAdd, Int32.reduceSub, an_0, an_1, an_2, an_3, an_4, an_5, tc_0, tc_1, tc_2, tc_3, tc_4, tc_5, tc_6, tc_7, tc_8, tc_9, tc_10, tc_11, tc_12, tc_13, tc_14, tc_15, tc_16, tc_17, tc_18, tc_19, tc_20, tc_21, tc_22, tc_23, tc_24, tc_25, tc_26, tc_27, tc_28, tc_29, tc_30, tc_31, tc_32, lcl_none, lcl_int, lcl_ref, lcl_null, lcl_long, okR_nil, okR_int, okR_ref, okR_null, okR_long, pushR_some, pushR_none, va_rf_some, va_rf_none, true_and, and_true, true_implies, false_implies, not_true_eq_false, not_false_eq_true, implies_true, bI_eq0, bI_eq1, bI_01, Classical.not_not, or_em, false_and, and_false]
        exact L_nuC hC hI ha haL hk (fun M2 hS2 hf2 hw2 => hK M2 hS2 hf2 hw2) P 0 M1 (by omega) hS1 (fun c h93 h97 h98 => hf1 c h97 h98) (fun l hl => hz1 l hl)
      cases hal : bitB a i with
      | false =>
        rw [hal] at hbl
        refine RO hS hC hMo hI (-1) (hC1 _ (fun M1 hS1 hf1 hw1 => ?_)) (fun M1 hS1 hM1 => ?_)
        · have n3 : mI M1 15 2 = nI a := by rw [hf1 15 (by decide) (by decide) (by decide)]; exact hC.2.2.1.2.2.1.trans ha
          have z0 : (nI i < 0) = False := eq_false (nI_pos (by omega))
          have z1 : (0 ≤ nI i) = True := eq_true (nI_pos' (by omega))
          have z3 : (5 ≤ nI i) = False := by rw [show (5 : Int32) = nI 5 from rfl, nI_leE (by decide) (by omega)]; exact eq_false (by omega)
          have hno : ∀ K, EvD 9 29 [.ref 96, .int (nI i), .int (nI a)] M1 K = K (some (.int (-1))) M1 := fun K => by
            rw [b_29 (by decide)]
            simp +decide only [e_29_0, e_29_1, e_29_4, e_29_5, e_29_6, e_29_9, e_29_10, e_29_13, e_29_14, e_29_15, e_29_16, e_29_19, e_29_20, e_29_21, e_29_24, e_29_27, e_29_28, e_29_31, e_29_32, e_29_35, e_29_36, e_29_37, e_29_38, e_29_41, e_29_44, e_29_45, ↓reduceIte, Int32.reduceAdd, Int32.reduceSub, an_0, an_1, an_2, an_3, an_4, an_5, tc_0, tc_1, tc_2, tc_3, tc_4, tc_5, tc_6, tc_7, tc_8, tc_9, tc_10, tc_11, tc_12, tc_13, tc_14, tc_15, tc_16, tc_17, tc_18, tc_19, tc_20, tc_21, tc_22, tc_23, tc_24, tc_25, tc_26, tc_27, tc_28, tc_29, tc_30, tc_31, tc_32, lcl_none, lcl_int, lcl_ref, lcl_null, lcl_long, okR_nil, okR_int, okR_ref, okR_null, okR_long, pushR_some, pushR_none, va_rf_some, va_rf_none, true_and, and_true, true_implies, false_implies, not_true_eq_false, not_false_eq_true, implies_true, bI_eq0, bI_eq1, bI_01, Classical.not_not, or_em, false_and, and_false, z0, z1, z3, c_isIn (d := 8) (by decide), hbl]
          simp +decide only [e_91_117, e_91_118, e_91_121, e_91_122, e_91_123, e_91_126, e_91_129, e_91_132, ↓reduceIte, Int32.reduceAdd, Int32.reduceSub, an_0, an_1, an_2, an_3, an_4, an_5, tc_0, tc_1, tc_2, tc_3, tc_4, tc_5, tc_6, tc_7, tc_8, tc_9, tc_10, tc_11, tc_12, tc_13, tc_14, tc_15, tc_16, tc_17, tc_18, tc_19, tc_20, tc_21, tc_22, tc_23, tc_24, tc_25, tc_26, tc_27, tc_28, tc_29, tc_30, tc_31, tc_32, lcl_none, lcl_int, lcl_ref, lcl_null, lcl_long, okR_nil, okR_int, okR_ref, okR_null, okR_long, pushR_some, pushR_none, va_rf_some, va_rf_none, true_and, and_true, true_implies, false_implies, not_true_eq_false, not_false_eq_true, implies_true, bI_eq0, bI_eq1, bI_01, Classical.not_not, or_em, false_and, and_false, hS1.1, hS1.2.1, hS1.2.2.1, kT_0, kT_1, kT_2, kT_15, kT_16, kT_17, kT_18, kT_19, kT_80, kT_81, kT_82, kT_89, kT_90, kT_91, kT_92, kT_93, kT_94, kT_95, kT_96, kT_97, kT_98, kT_99, kT_100, kT_101, nT_2, nT_16, nT_17, nT_19, nT_81, nT_82, nT_90, nT_91, nT_94, nT_95, nT_97, nT_98, nT_100, nT_101, rT_0_0, rT_0_3, rT_0_4, rT_0_5, rT_0_6, rT_0_7, rT_0_8, rT_0_9, rT_0_10, rT_1_0, rT_15_0, rT_15_1, rT_18_0, rT_80_0, rT_80_1, rT_89_0, rT_89_1, rT_93_6, rT_93_7, rT_96_0, rT_96_1, rT_99_0, rT_99_1, n3, hno]
          exact ⟨hS1, fun c hc => hf1 c (by omega) (by omega) (by omega)⟩
        · show EvD 20 166 [.ref 102, .int (nI i), .int (nI k)] M1 _
          have h10 : mI M1 111 10 = nI a := (hM1.2.2.1 10 (by decide)).trans ha
          rw [b_166 (by decide)]
          simp +decide only [e_166_0, e_166_1, e_166_2, e_166_5, e_166_8, e_166_10, e_166_11, e_166_12, e_166_13, e_166_15, e_166_18, e_166_21, e_166_23, e_166_24, e_166_25, e_166_26, e_166_29, e_166_32, e_166_33, e_166_34, e_166_37, e_166_40, e_166_41, ↓reduceIte, Int32.reduceAdd, Int32.reduceSub, an_0, an_1, an_2, an_3, an_4, an_5, tc_0, tc_1, tc_2, tc_3, tc_4, tc_5, tc_6, tc_7, tc_8, tc_9, tc_10, tc_11, tc_12, tc_13, tc_14, tc_15, tc_16, tc_17, tc_18, tc_19, tc_20, tc_21, tc_22, tc_23, tc_24, tc_25, tc_26, tc_27, tc_28, tc_29, tc_30, tc_31, tc_32, lcl_none, lcl_int, lcl_ref, lcl_null, lcl_long, okR_nil, okR_int, okR_ref, okR_null, okR_long, pushR_some, pushR_none, va_rf_some, va_rf_none, true_and, and_true, true_implies, false_implies, not_true_eq_false, not_false_eq_true, implies_true, bI_eq0, bI_eq1, bI_01, Classical.not_not, or_em, false_and, and_false, hS1.1, hS1.2.1, hS1.2.2.1, kT_102, kT_103, kT_104, kT_105, kT_106, kT_107, kT_108, kT_109, kT_110, kT_111, kT_112, kT_113, kT_114, kT_115, kT_116, kT_117, kT_118, kT_119, kT_120, nT_103, nT_104, nT_105, nT_106, nT_107, nT_108, nT_109, nT_110, nT_111, nT_112, nT_113, nT_114, nT_115, nT_116, nT_117, nT_118, nT_119, nT_120, rT_102_1, rT_102_12, rT_102_13, rT_102_14, rT_102_18, rT_102_19, rT_102_20, rT_102_21, rT_102_22, rT_102_23, rT_102_25, rT_102_26, rT_102_27, rT_102_30, rT_102_31, rT_102_32, rT_102_33, rT_102_34, c_isLifeM (d := 7) (by decide) hS1, c_isAliveM (d := 7) (by decide) hS1, c_in (d := 7) (by decide), hym M1 hM1, hnx, h10, hbl]
          exact hS1
      | true =>
        rw [hal] at hbl
        have hplt := plN_lt (a := a) (l := i) (by omega) hal
        have hp5 : plN a 5 ≤ 5 := by rw [plN_pop (L := 5) (Nat.le_refl 5) ha32]; exact pop5_le a ha32
        refine RO hS hC hMo hI (nuA σ L P k a i) (hC1 _ (fun M1 hS1 hf1 hw1 => ?_)) (fun M1 hS1 hM1 => ?_)
        · have n3 : mI M1 15 2 = nI a := by rw [hf1 15 (by decide) (by decide) (by decide)]; exact hC.2.2.1.2.2.1.trans ha
          simp +decide only [e_91_117, e_91_118, e_91_121, e_91_122, e_91_123, e_91_126, e_91_129, ↓reduceIte, Int32.reduceAdd, Int32.reduceSub, an_0, an_1, an_2, an_3, an_4, an_5, tc_0, tc_1, tc_2, tc_3, tc_4, tc_5, tc_6, tc_7, tc_8, tc_9, tc_10, tc_11, tc_12, tc_13, tc_14, tc_15, tc_16, tc_17, tc_18, tc_19, tc_20, tc_21, tc_22, tc_23, tc_24, tc_25, tc_26, tc_27, tc_28, tc_29, tc_30, tc_31, tc_32, lcl_none, lcl_int, lcl_ref, lcl_null, lcl_long, okR_nil, okR_int, okR_ref, okR_null, okR_long, pushR_some, pushR_none, va_rf_some, va_rf_none, true_and, and_true, true_implies, false_implies, not_true_eq_false, not_false_eq_true, implies_true, bI_eq0, bI_eq1, bI_01, Classical.not_not, or_em, false_and, and_false, hS1.1, hS1.2.1, hS1.2.2.1, kT_0, kT_1, kT_2, kT_15, kT_16, kT_17, kT_18, kT_19, kT_80, kT_81, kT_82, kT_89, kT_90, kT_91, kT_92, kT_93, kT_94, kT_95, kT_96, kT_97, kT_98, kT_99, kT_100, kT_101, nT_2, nT_16, nT_17, nT_19, nT_81, nT_82, nT_90, nT_91, nT_94, nT_95, nT_97, nT_98, nT_100, nT_101, rT_0_0, rT_0_3, rT_0_4, rT_0_5, rT_0_6, rT_0_7, rT_0_8, rT_0_9, rT_0_10, rT_1_0, rT_15_0, rT_15_1, rT_18_0, rT_80_0, rT_80_1, rT_89_0, rT_89_1, rT_93_6, rT_93_7, rT_96_0, rT_96_1, rT_99_0, rT_99_1, n3]
          refine EvD_mono (c_nurseOf hS1 ha32 hP (show i < 5 by omega) hal hw1) ?_
          rintro r M2 ⟨rfl, hS2, hf2⟩
          simp +decide only [e_91_132, ↓reduceIte, Int32.reduceAdd, Int32.reduceSub, an_0, an_1, an_2, an_3, an_4, an_5, tc_0, tc_1, tc_2, tc_3, tc_4, tc_5, tc_6, tc_7, tc_8, tc_9, tc_10, tc_11, tc_12, tc_13, tc_14, tc_15, tc_16, tc_17, tc_18, tc_19, tc_20, tc_21, tc_22, tc_23, tc_24, tc_25, tc_26, tc_27, tc_28, tc_29, tc_30, tc_31, tc_32, lcl_none, lcl_int, lcl_ref, lcl_null, lcl_long, okR_nil, okR_int, okR_ref, okR_null, okR_long, pushR_some, pushR_none, va_rf_some, va_rf_none, true_and, and_true, true_implies, false_implies, not_true_eq_false, not_false_eq_true, implies_true, bI_eq0, bI_eq1, bI_01, Classical.not_not, or_em, false_and, and_false]
          exact ⟨hS2, fun c hc => by rw [hf2 c (by omega), hf1 c (by omega) (by omega) (by omega)]⟩
        · show EvD 20 166 [.ref 102, .int (nI i), .int (nI k)] M1 _
          have h10 : mI M1 111 10 = nI a := (hM1.2.2.1 10 (by decide)).trans ha
          rw [b_166 (by decide)]
          simp +decide only [e_166_0, e_166_1, e_166_2, e_166_5, e_166_8, e_166_10, e_166_11, e_166_12, e_166_13, e_166_15, e_166_18, e_166_21, e_166_23, e_166_24, e_166_25, e_166_26, e_166_29, e_166_32, e_166_33, e_166_34, ↓reduceIte, Int32.reduceAdd, Int32.reduceSub, an_0, an_1, an_2, an_3, an_4, an_5, tc_0, tc_1, tc_2, tc_3, tc_4, tc_5, tc_6, tc_7, tc_8, tc_9, tc_10, tc_11, tc_12, tc_13, tc_14, tc_15, tc_16, tc_17, tc_18, tc_19, tc_20, tc_21, tc_22, tc_23, tc_24, tc_25, tc_26, tc_27, tc_28, tc_29, tc_30, tc_31, tc_32, lcl_none, lcl_int, lcl_ref, lcl_null, lcl_long, okR_nil, okR_int, okR_ref, okR_null, okR_long, pushR_some, pushR_none, va_rf_some, va_rf_none, true_and, and_true, true_implies, false_implies, not_true_eq_false, not_false_eq_true, implies_true, bI_eq0, bI_eq1, bI_01, Classical.not_not, or_em, false_and, and_false, hS1.1, hS1.2.1, hS1.2.2.1, kT_102, kT_103, kT_104, kT_105, kT_106, kT_107, kT_108, kT_109, kT_110, kT_111, kT_112, kT_113, kT_114, kT_115, kT_116, kT_117, kT_118, kT_119, kT_120, nT_103, nT_104, nT_105, nT_106, nT_107, nT_108, nT_109, nT_110, nT_111, nT_112, nT_113, nT_114, nT_115, nT_116, nT_117, nT_118, nT_119, nT_120, rT_102_1, rT_102_12, rT_102_13, rT_102_14, rT_102_18, rT_102_19, rT_102_20, rT_102_21, rT_102_22, rT_102_23, rT_102_25, rT_102_26, rT_102_27, rT_102_30, rT_102_31, rT_102_32, rT_102_33, rT_102_34, c_isLifeM (d := 7) (by decide) hS1, c_isAliveM (d := 7) (by decide) hS1, c_in (d := 7) (by decide), hym M1 hM1, hnx, h10, hbl]
          refine EvD_mono (C_lay hS1 hM1 hI ha haL hk (by omega)) ?_
          rintro r M2 ⟨hS2, hf2, g1, g2⟩
          have h10' : mI M2 111 10 = nI a := by rw [hf2 111 (by decide)]; exact h10
          have hlm := lowm a ha32 i (by omega)
          have hlp := lowp a ha32 i (by omega)
          have hm32 : a % 2 ^ i < 32 := Nat.lt_of_le_of_lt (Nat.mod_le _ _) ha32
          have hpop : ∀ K, EvD 7 120 [.int (nI (a % 2 ^ i))] M2 K = K (some (.int (nI (plN a i)))) M2 := fun K => by rw [c_popM (d := 7) (by decide) hm32, hlp]
          have hcl : (nI (plN a i)).toNatClampNeg = plN a i := nI_clamp (by omega)
          have hin : inX (nI (plN a i)) 5 = True := eq_true (inX_nI (by decide) (by omega))
          unfold nuA
          cases ho : btN (fun i => nuU σ L P k a (lfI a i)) P (plN a 5) 0 0 with
          | none =>
            rw [g1 ho]
            simp +decide only [e_166_37, e_166_40, e_166_41, ↓reduceIte, Int32.reduceAdd, Int32.reduceSub, an_0, an_1, an_2, an_3, an_4, an_5, tc_0, tc_1, tc_2, tc_3, tc_4, tc_5, tc_6, tc_7, tc_8, tc_9, tc_10, tc_11, tc_12, tc_13, tc_14, tc_15, tc_16, tc_17, tc_18, tc_19, tc_20, tc_21, tc_22, tc_23, tc_24, tc_25, tc_26, tc_27, tc_28, tc_29, tc_30, tc_31, tc_32, lcl_none, lcl_int, lcl_ref, lcl_null, lcl_long, okR_nil, okR_int, okR_ref, okR_null, okR_long, pushR_some, pushR_none, va_rf_some, va_rf_none, true_and, and_true, true_implies, false_implies, not_true_eq_false, not_false_eq_true, implies_true, bI_eq0, bI_eq1, bI_01, Classical.not_not, or_em, false_and, and_false]
            exact ⟨hS2, hf2⟩
          | some c =>
            have hc := (g2 c ho).2 (plN a i) hplt
            rw [(g2 c ho).1]
            simp +decide only [e_166_37, e_166_40, e_166_41, e_166_42, e_166_43, e_166_46, e_166_47, e_166_50, e_166_52, e_166_53, e_166_54, e_166_55, e_166_56, e_166_57, e_166_58, e_166_59, e_166_62, e_166_63, ↓reduceIte, Int32.reduceAdd, Int32.reduceSub, an_0, an_1, an_2, an_3, an_4, an_5, tc_0, tc_1, tc_2, tc_3, tc_4, tc_5, tc_6, tc_7, tc_8, tc_9, tc_10, tc_11, tc_12, tc_13, tc_14, tc_15, tc_16, tc_17, tc_18, tc_19, tc_20, tc_21, tc_22, tc_23, tc_24, tc_25, tc_26, tc_27, tc_28, tc_29, tc_30, tc_31, tc_32, lcl_none, lcl_int, lcl_ref, lcl_null, lcl_long, okR_nil, okR_int, okR_ref, okR_null, okR_long, pushR_some, pushR_none, va_rf_some, va_rf_none, true_and, and_true, true_implies, false_implies, not_true_eq_false, not_false_eq_true, implies_true, bI_eq0, bI_eq1, bI_01, Classical.not_not, or_em, false_and, and_false, hS2.1, hS2.2.1, hS2.2.2.1, kT_102, kT_103, kT_104, kT_105, kT_106, kT_107, kT_108, kT_109, kT_110, kT_111, kT_112, kT_113, kT_114, kT_115, kT_116, kT_117, kT_118, kT_119, kT_120, nT_103, nT_104, nT_105, nT_106, nT_107, nT_108, nT_109, nT_110, nT_111, nT_112, nT_113, nT_114, nT_115, nT_116, nT_117, nT_118, nT_119, nT_120, rT_102_1, rT_102_12, rT_102_13, rT_102_14, rT_102_18, rT_102_19, rT_102_20, rT_102_21, rT_102_22, rT_102_23, rT_102_25, rT_102_26, rT_102_27, rT_102_30, rT_102_31, rT_102_32, rT_102_33, rT_102_34, h10', hlm, hpop, hcl, hin, hc]
            exact ⟨hS2, hf2⟩
    · have hnx : (1 ≤ n ∧ n ≤ 20) = False := eq_false hn
      refine RO hS hC hMo hI (-2000000002) ?_ (fun M1 hS1 hM1 => ?_)
      · show EvD 20 91 [.ref 0, .int (nI i), .int n] M _
        rw [b_91 (by decide)]
        simp +decide only [e_91_0, e_91_1, e_91_4, e_91_5, e_91_8, e_91_11, e_91_13, e_91_14, e_91_15, e_91_18, e_91_21, e_91_23, e_91_24, e_91_25, e_91_28, ↓reduceIte, Int32.reduceAdd, Int32.reduceSub, an_0, an_1, an_2, an_3, an_4, an_5, tc_0, tc_1, tc_2, tc_3, tc_4, tc_5, tc_6, tc_7, tc_8, tc_9, tc_10, tc_11, tc_12, tc_13, tc_14, tc_15, tc_16, tc_17, tc_18, tc_19, tc_20, tc_21, tc_22, tc_23, tc_24, tc_25, tc_26, tc_27, tc_28, tc_29, tc_30, tc_31, tc_32, lcl_none, lcl_int, lcl_ref, lcl_null, lcl_long, okR_nil, okR_int, okR_ref, okR_null, okR_long, pushR_some, pushR_none, va_rf_some, va_rf_none, true_and, and_true, true_implies, false_implies, not_true_eq_false, not_false_eq_true, implies_true, bI_eq0, bI_eq1, bI_01, Classical.not_not, or_em, false_and, and_false, hS.1, hS.2.1, hS.2.2.1, hS.2.2.2.1, kT_0, kT_1, kT_2, kT_15, kT_16, kT_17, kT_18, kT_19, kT_80, kT_81, kT_82, kT_89, kT_90, kT_91, kT_92, kT_93, kT_94, kT_95, kT_96, kT_97, kT_98, kT_99, kT_100, kT_101, nT_2, nT_16, nT_17, nT_19, nT_81, nT_82, nT_90, nT_91, nT_94, nT_95, nT_97, nT_98, nT_100, nT_101, rT_0_0, rT_0_3, rT_0_4, rT_0_5, rT_0_6, rT_0_7, rT_0_8, rT_0_9, rT_0_10, rT_1_0, rT_15_0, rT_15_1, rT_18_0, rT_80_0, rT_80_1, rT_89_0, rT_89_1, rT_93_6, rT_93_7, rT_96_0, rT_96_1, rT_99_0, rT_99_1, chS1, chK, chR7, chK7, chN7, chR8, chK8, chN8, chR9, chK9, chN9, chR10, chK10, chN10, chR11, chK11, chN11, c_hasLife (d := 9) (by decide), c_mayBeTried (d := 9) (by decide), a1, hy, hnx]
        exact hS
      · show EvD 20 166 [.ref 102, .int (nI i), .int n] M1 _
        rw [b_166 (by decide)]
        simp +decide only [e_166_0, e_166_1, e_166_2, e_166_5, e_166_8, e_166_10, e_166_11, e_166_12, e_166_13, e_166_15, e_166_18, e_166_21, e_166_23, e_166_24, e_166_25, e_166_26, e_166_29, e_166_32, e_166_33, e_166_34, e_166_37, e_166_40, e_166_41, ↓reduceIte, Int32.reduceAdd, Int32.reduceSub, an_0, an_1, an_2, an_3, an_4, an_5, tc_0, tc_1, tc_2, tc_3, tc_4, tc_5, tc_6, tc_7, tc_8, tc_9, tc_10, tc_11, tc_12, tc_13, tc_14, tc_15, tc_16, tc_17, tc_18, tc_19, tc_20, tc_21, tc_22, tc_23, tc_24, tc_25, tc_26, tc_27, tc_28, tc_29, tc_30, tc_31, tc_32, lcl_none, lcl_int, lcl_ref, lcl_null, lcl_long, okR_nil, okR_int, okR_ref, okR_null, okR_long, pushR_some, pushR_none, va_rf_some, va_rf_none, true_and, and_true, true_implies, false_implies, not_true_eq_false, not_false_eq_true, implies_true, bI_eq0, bI_eq1, bI_01, Classical.not_not, or_em, false_and, and_false, hS1.1, hS1.2.1, hS1.2.2.1, kT_102, kT_103, kT_104, kT_105, kT_106, kT_107, kT_108, kT_109, kT_110, kT_111, kT_112, kT_113, kT_114, kT_115, kT_116, kT_117, kT_118, kT_119, kT_120, nT_103, nT_104, nT_105, nT_106, nT_107, nT_108, nT_109, nT_110, nT_111, nT_112, nT_113, nT_114, nT_115, nT_116, nT_117, nT_118, nT_119, nT_120, rT_102_1, rT_102_12, rT_102_13, rT_102_14, rT_102_18, rT_102_19, rT_102_20, rT_102_21, rT_102_22, rT_102_23, rT_102_25, rT_102_26, rT_102_27, rT_102_30, rT_102_31, rT_102_32, rT_102_33, rT_102_34, c_isLifeM (d := 7) (by decide) hS1, c_in (d := 7) (by decide), hym M1 hM1, hnx]
        exact hS1
  · have hy : (0 ≤ l ∧ l < σ 0 0) = False := by rw [iL]; exact eq_false hl
    refine RO hS hC hMo hI (-2000000001) ?_ (fun M1 hS1 hM1 => ?_)
    · show EvD 20 91 [.ref 0, .int l, .int n] M _
      rw [b_91 (by decide)]
      simp +decide only [e_91_0, e_91_1, e_91_4, e_91_5, e_91_8, e_91_11, e_91_13, e_91_14, e_91_15, e_91_18, e_91_21, e_91_23, e_91_24, e_91_25, e_91_28, ↓reduceIte, Int32.reduceAdd, Int32.reduceSub, an_0, an_1, an_2, an_3, an_4, an_5, tc_0, tc_1, tc_2, tc_3, tc_4, tc_5, tc_6, tc_7, tc_8, tc_9, tc_10, tc_11, tc_12, tc_13, tc_14, tc_15, tc_16, tc_17, tc_18, tc_19, tc_20, tc_21, tc_22, tc_23, tc_24, tc_25, tc_26, tc_27, tc_28, tc_29, tc_30, tc_31, tc_32, lcl_none, lcl_int, lcl_ref, lcl_null, lcl_long, okR_nil, okR_int, okR_ref, okR_null, okR_long, pushR_some, pushR_none, va_rf_some, va_rf_none, true_and, and_true, true_implies, false_implies, not_true_eq_false, not_false_eq_true, implies_true, bI_eq0, bI_eq1, bI_01, Classical.not_not, or_em, false_and, and_false, hS.1, hS.2.1, hS.2.2.1, hS.2.2.2.1, kT_0, kT_1, kT_2, kT_15, kT_16, kT_17, kT_18, kT_19, kT_80, kT_81, kT_82, kT_89, kT_90, kT_91, kT_92, kT_93, kT_94, kT_95, kT_96, kT_97, kT_98, kT_99, kT_100, kT_101, nT_2, nT_16, nT_17, nT_19, nT_81, nT_82, nT_90, nT_91, nT_94, nT_95, nT_97, nT_98, nT_100, nT_101, rT_0_0, rT_0_3, rT_0_4, rT_0_5, rT_0_6, rT_0_7, rT_0_8, rT_0_9, rT_0_10, rT_1_0, rT_15_0, rT_15_1, rT_18_0, rT_80_0, rT_80_1, rT_89_0, rT_89_1, rT_93_6, rT_93_7, rT_96_0, rT_96_1, rT_99_0, rT_99_1, chS1, chK, chR7, chK7, chN7, chR8, chK8, chN8, chR9, chK9, chN9, chR10, chK10, chN10, chR11, chK11, chN11, c_hasLife (d := 9) (by decide), a1, hy]
      exact hS
    · show EvD 20 166 [.ref 102, .int l, .int n] M1 _
      have hym : (0 ≤ l ∧ l ≤ mI M1 102 16 - 1) = False := by rw [hM1.1.1.1, iL, ix_pred hL]; exact eq_false hl
      rw [b_166 (by decide)]
      simp +decide only [e_166_0, e_166_1, e_166_2, e_166_5, e_166_8, e_166_10, e_166_11, e_166_12, e_166_13, e_166_15, e_166_18, e_166_21, e_166_23, e_166_24, e_166_25, e_166_26, e_166_29, e_166_32, e_166_33, e_166_34, e_166_37, e_166_40, e_166_41, ↓reduceIte, Int32.reduceAdd, Int32.reduceSub, an_0, an_1, an_2, an_3, an_4, an_5, tc_0, tc_1, tc_2, tc_3, tc_4, tc_5, tc_6, tc_7, tc_8, tc_9, tc_10, tc_11, tc_12, tc_13, tc_14, tc_15, tc_16, tc_17, tc_18, tc_19, tc_20, tc_21, tc_22, tc_23, tc_24, tc_25, tc_26, tc_27, tc_28, tc_29, tc_30, tc_31, tc_32, lcl_none, lcl_int, lcl_ref, lcl_null, lcl_long, okR_nil, okR_int, okR_ref, okR_null, okR_long, pushR_some, pushR_none, va_rf_some, va_rf_none, true_and, and_true, true_implies, false_implies, not_true_eq_false, not_false_eq_true, implies_true, bI_eq0, bI_eq1, bI_01, Classical.not_not, or_em, false_and, and_false, hS1.1, hS1.2.1, hS1.2.2.1, kT_102, kT_103, kT_104, kT_105, kT_106, kT_107, kT_108, kT_109, kT_110, kT_111, kT_112, kT_113, kT_114, kT_115, kT_116, kT_117, kT_118, kT_119, kT_120, nT_103, nT_104, nT_105, nT_106, nT_107, nT_108, nT_109, nT_110, nT_111, nT_112, nT_113, nT_114, nT_115, nT_116, nT_117, nT_118, nT_119, nT_120, rT_102_1, rT_102_12, rT_102_13, rT_102_14, rT_102_18, rT_102_19, rT_102_20, rT_102_21, rT_102_22, rT_102_23, rT_102_25, rT_102_26, rT_102_27, rT_102_30, rT_102_31, rT_102_32, rT_102_33, rT_102_34, c_isLifeM (d := 7) (by decide) hS1, hym]
      exact hS1
