/-! tontine, the model -/
theorem TM_of {b : Bool} {M : ab_M} {σ : Sg} {N : Nat} (hS : Sh b M) (hM : RM M σ) (hN : σ 0 5 = nI N) (hN2 : N ≤ 220) : TM b M (tT σ) N := ⟨hS, hM.1.2.1.2.2.1.trans hN, hN2, fun i hi => hM.2.2.2.1 i hi, fun i => nnI_nn _⟩
theorem M_tonF {N : Nat} {b : Bool} {σ : Sg} {kd v : Int32} {M : ab_M} (hS : Sh b M) (hM : RM M σ) (hN : σ 0 5 = nI N) (hN2 : N ≤ 220) (hc : PmF (tT σ) N (skP (tT σ) N 0) false 0 0 D0 kd v) : EvD 20 134 [.ref 102] M (fun r M1 => r = some (.int (-10 - kd)) ∧ Sh b M1 ∧ frM M M1 ∧ RM M1 (u2 (u2 σ 0 3 v) 0 5 0)) := by
  have hT := TM_of hS hM hN hN2
  have hk : mK M 102 = 11 := by rw [hS.1]; rfl
  rw [b_134 (by decide)]
  simp +decide only [e_134_0, e_134_1, ↓reduceIte, Int32.reduceAdd, Int32.reduceSub, an_0, an_1, an_2, an_3, an_4, an_5, tc_0, tc_1, tc_2, tc_3, tc_4, tc_5, tc_6, tc_7, tc_8, tc_9, tc_10, tc_11, tc_12, tc_13, tc_14, tc_15, tc_16, tc_17, tc_18, tc_19, tc_20, tc_21, tc_22, tc_23, tc_24, tc_25, tc_26, tc_27, tc_28, tc_29, tc_30, tc_31, tc_32, lcl_none, lcl_int, lcl_ref, lcl_null, lcl_long, okR_nil, okR_int, okR_ref, okR_null, okR_long, pushR_some, pushR_none, va_rf_some, va_rf_none, true_and, and_true, true_implies, false_implies, not_true_eq_false, not_false_eq_true, implies_true, bI_eq0, bI_eq1, bI_01, Classical.not_not, or_em, false_and, and_false, hk]
  refine M_read hT (fun nu g => hc b (rdM M) nu g _ (TM_rd hT) MD_rd (fun M1 hF => ?_))
  obtain ⟨hS1, hF1, h7, h8⟩ := FQ_t FR_rd hF
  have h8' : mI (wI M1 102 0 0) 102 8 = kd := by rw [mI_wI, if_neg (by decide)]; exact h8
  have h7' : mI (wI M1 102 0 0) 102 7 = v := by rw [mI_wI, if_neg (by decide)]; exact h7
  have h0' : mI (wI M1 102 0 0) 102 0 = 0 := by simp [mI_wI]
  have hj : ∀ j, 11 < j → mI (wI M1 102 0 0) 102 j = mI M 102 j := fun j hj => by rw [mI_wI, if_neg (by omega)]; exact hF1.2 j (Or.inr hj)
  have ho : ∀ a, a ≠ 102 → a ≠ 104 → a ≠ 105 → a ≠ 106 → mI (wI M1 102 0 0) a = mI M a := fun a g1 g2 g3 g4 => by rw [mI_wI_ne g1]; exact hF1.1 a g1 g2 g3 g4
  simp +decide only [e_134_4, e_134_5, e_134_6, e_134_7, e_134_10, e_134_11, e_134_14, e_134_16, e_134_17, e_134_20, e_134_21, ↓reduceIte, Int32.reduceAdd, Int32.reduceSub, an_0, an_1, an_2, an_3, an_4, an_5, tc_0, tc_1, tc_2, tc_3, tc_4, tc_5, tc_6, tc_7, tc_8, tc_9, tc_10, tc_11, tc_12, tc_13, tc_14, tc_15, tc_16, tc_17, tc_18, tc_19, tc_20, tc_21, tc_22, tc_23, tc_24, tc_25, tc_26, tc_27, tc_28, tc_29, tc_30, tc_31, tc_32, lcl_none, lcl_int, lcl_ref, lcl_null, lcl_long, okR_nil, okR_int, okR_ref, okR_null, okR_long, pushR_some, pushR_none, va_rf_some, va_rf_none, true_and, and_true, true_implies, false_implies, not_true_eq_false, not_false_eq_true, implies_true, bI_eq0, bI_eq1, bI_01, Classical.not_not, or_em, false_and, and_false, hS1.1, kT_102, mK_wI, h8']
  have hs : ∀ j, j ≠ 0 → u2 (u2 σ 0 3 v) 0 5 0 j = σ j := fun j hj => by rw [u2_ne hj, u2_ne hj]
  have h0k : ∀ k, k ≠ 3 → k ≠ 5 → u2 (u2 σ 0 3 v) 0 5 0 0 k = σ 0 k := fun k h3 h5 => by rw [u2_nk h5, u2_nk h3]
  obtain ⟨m1, m2, m3, m4, m5, m6, m7⟩ := hM
  refine ⟨hS1, fun a ha => ho a (by omega) (by omega) (by omega) (by omega), ?_, m2.kp (fun a g1 g2 => ho a (by omega) (by omega) (by omega) (by omega)) (h0k _ (by decide) (by decide)) (h0k _ (by decide) (by decide)) (hs _ (by decide)) (hs _ (by decide)) (hs _ (by decide)), m3.kp (ho _ (by decide) (by decide) (by decide) (by decide)) (hs _ (by decide)), m4.kp (ho _ (by decide) (by decide) (by decide) (by decide)) (hs _ (by decide)), m5.kp (ho _ (by decide) (by decide) (by decide) (by decide)) (hs _ (by decide)) (hs _ (by decide)), m6.kp (fun a g1 g2 => ho a (by omega) (by omega) (by omega) (by omega)) (hs _ (by decide)) (hs _ (by decide)) (hs _ (by decide)) (hs _ (by decide)), m7.kp (ho _ (by decide) (by decide) (by decide) (by decide)) (h0k _ (by decide) (by decide)) (fun i _ => hs _ (by omega))⟩
  have h0 := m1
  unfold RM0 at h0 ⊢
  rw [hj 16 (by decide), hj 17 (by decide), hj 15 (by decide), h7', hj 28 (by decide), h0', hj 24 (by decide), hj 29 (by decide), ho 107 (by decide) (by decide) (by decide) (by decide), h0k 0 (by decide) (by decide), h0k 1 (by decide) (by decide), h0k 2 (by decide) (by decide), h0k 4 (by decide) (by decide), h0k 6 (by decide) (by decide), h0k 7 (by decide) (by decide), hs 1 (by decide)]
  refine ⟨h0.1, ⟨?_, h0.2.1.2.1, ?_, h0.2.1.2.2.2.1, h0.2.1.2.2.2.2⟩, h0.2.2⟩
  · rw [u2_nk (by decide), u2_at]
  · rw [u2_at]
def fgN (k : Nat) : Int32 := if k < 5 then 0 else if k < 10 then -1 else 0
theorem L_fg {b : Bool} {M0 : ab_M} {Q : ab_Q} (hQ : ∀ M1, Sh b M1 → (∀ a, a ≠ 111 → mI M1 a = mI M0 a) → (∀ k, k < 14 → mI M1 111 k = fgN k) → Q none M1) : ∀ q i M, i + q = 14 → Sh b M → (∀ a, a ≠ 111 → mI M a = mI M0 a) → (∀ k, k < i → mI M 111 k = fgN k) → Ev 0 117 2 [some (.ref 102), some (.int (nI i))] [] M Q := by
  intro q
  induction q with
  | zero =>
    intro i M hi hS hf hw
    have h1 : (14 ≤ nI i) = True := by rw [show i = 14 by omega]; exact eq_true (by decide)
    rw [e_117_2]
    simp +decide only [e_117_3, e_117_5, e_117_36, ↓reduceIte, Int32.reduceAdd, Int32.reduceSub, an_0, an_1, an_2, an_3, an_4, an_5, tc_0, tc_1, tc_2, tc_3, tc_4, tc_5, tc_6, tc_7, tc_8, tc_9, tc_10, tc_11, tc_12, tc_13, tc_14, tc_15, tc_16, tc_17, tc_18, tc_19, tc_20, tc_21, tc_22, tc_23, tc_24, tc_25, tc_26, tc_27, tc_28, tc_29, tc_30, tc_31, tc_32, lcl_none, lcl_int, lcl_ref, lcl_null, lcl_long, okR_nil, okR_int, okR_ref, okR_null, okR_long, pushR_some, pushR_none, va_rf_some, va_rf_none, true_and, and_true, true_implies, false_implies, not_true_eq_false, not_false_eq_true, implies_true, bI_eq0, bI_eq1, bI_01, Classical.not_not, or_em, false_and, and_false, h1]
    rw [show i = 14 by omega] at hw
    exact hQ M hS hf hw
  | succ q ih =>
    intro i M hi hS hf hw
    have h1 : (14 ≤ nI i) = False := by rw [show (14 : Int32) = nI 14 from rfl, nI_leE (by decide) (by omega)]; exact eq_false (by omega)
    have h5 : (nI i < 5) = (i < 5) := nI_ltE (b := 5) (by omega) (by decide)
    have h10 : (10 ≤ nI i) = (10 ≤ i) := nI_leE (a := 10) (by decide) (by omega)
    have hcl : (nI i).toNatClampNeg = i := nI_clamp (by omega)
    have hin : inX (nI i) 14 = True := eq_true (inX_nI (by decide) (by omega))
    have fin : ∀ v, v = fgN i → Ev 0 117 2 [some (.ref 102), some (.int (nI (i + 1)))] [] (wI M 111 i v) Q := fun v hv => by
      refine ih (i + 1) _ (by omega) hS (fun a ha => by rw [mI_wI_ne ha]; exact hf a ha) (fun k hk => ?_)
      rw [mI_wI]
      by_cases e : k = i
      · rw [if_pos ⟨rfl, e⟩, e, hv]
      · rw [if_neg (fun z => e z.2)]
        exact hw k (by omega)
    rw [e_117_2]
    by_cases g5 : i < 5
    · have g5' : (i < 5) = True := eq_true g5
      simp +decide only [e_117_3, e_117_5, e_117_8, e_117_9, e_117_12, e_117_13, e_117_14, e_117_15, e_117_18, e_117_19, e_117_21, e_117_24, e_117_25, e_117_28, e_117_29, e_117_30, e_117_33, ↓reduceIte, Int32.reduceAdd, Int32.reduceSub, an_0, an_1, an_2, an_3, an_4, an_5, tc_0, tc_1, tc_2, tc_3, tc_4, tc_5, tc_6, tc_7, tc_8, tc_9, tc_10, tc_11, tc_12, tc_13, tc_14, tc_15, tc_16, tc_17, tc_18, tc_19, tc_20, tc_21, tc_22, tc_23, tc_24, tc_25, tc_26, tc_27, tc_28, tc_29, tc_30, tc_31, tc_32, lcl_none, lcl_int, lcl_ref, lcl_null, lcl_long, okR_nil, okR_int, okR_ref, okR_null, okR_long, pushR_some, pushR_none, va_rf_some, va_rf_none, true_and, and_true, true_implies, false_implies, not_true_eq_false, not_false_eq_true, implies_true, bI_eq0, bI_eq1, bI_01, Classical.not_not, or_em, false_and, and_false, hS.1, hS.2.1, hS.2.2.1, hS.2.2.2.1, kT_102, kT_103, kT_104, kT_105, kT_106, kT_107, kT_108, kT_109, kT_110, kT_111, kT_112, kT_113, kT_114, kT_115, kT_116, kT_117, kT_118, kT_119, kT_120, nT_103, nT_104, nT_105, nT_106, nT_107, nT_108, nT_109, nT_110, nT_111, nT_112, nT_113, nT_114, nT_115, nT_116, nT_117, nT_118, nT_119, nT_120, rT_102_1, rT_102_12, rT_102_13, rT_102_14, rT_102_18, rT_102_19, rT_102_20, rT_102_21, rT_102_22, rT_102_23, rT_102_25, rT_102_26, rT_102_27, rT_102_30, rT_102_31, rT_102_32, rT_102_33, rT_102_34, h1, h5, g5', hcl, hin, nI_1]
      exact fin 0 (by unfold fgN; rw [if_pos g5])
    · have g5' : (i < 5) = False := eq_false g5
      by_cases g10 : 10 ≤ i
      · have g10' : (10 ≤ i) = True := eq_true g10
        simp +decide only [e_117_3, e_117_5, e_117_8, e_117_9, e_117_12, e_117_13, e_117_14, e_117_15, e_117_18, e_117_19, e_117_21, e_117_24, e_117_25, e_117_28, e_117_29, e_117_30, e_117_33, ↓reduceIte, Int32.reduceAdd, Int32.reduceSub, an_0, an_1, an_2, an_3, an_4, an_5, tc_0, tc_1, tc_2, tc_3, tc_4, tc_5, tc_6, tc_7, tc_8, tc_9, tc_10, tc_11, tc_12, tc_13, tc_14, tc_15, tc_16, tc_17, tc_18, tc_19, tc_20, tc_21, tc_22, tc_23, tc_24, tc_25, tc_26, tc_27, tc_28, tc_29, tc_30, tc_31, tc_32, lcl_none, lcl_int, lcl_ref, lcl_null, lcl_long, okR_nil, okR_int, okR_ref, okR_null, okR_long, pushR_some, pushR_none, va_rf_some, va_rf_none, true_and, and_true, true_implies, false_implies, not_true_eq_false, not_false_eq_true, implies_true, bI_eq0, bI_eq1, bI_01, Classical.not_not, or_em, false_and, and_false, hS.1, hS.2.1, hS.2.2.1, hS.2.2.2.1, kT_102, kT_103, kT_104, kT_105, kT_106, kT_107, kT_108, kT_109, kT_110, kT_111, kT_112, kT_113, kT_114, kT_115, kT_116, kT_117, kT_118, kT_119, kT_120, nT_103, nT_104, nT_105, nT_106, nT_107, nT_108, nT_109, nT_110, nT_111, nT_112, nT_113, nT_114, nT_115, nT_116, nT_117, nT_118, nT_119, nT_120, rT_102_1, rT_102_12, rT_102_13, rT_102_14, rT_102_18, rT_102_19, rT_102_20, rT_102_21, rT_102_22, rT_102_23, rT_102_25, rT_102_26, rT_102_27, rT_102_30, rT_102_31, rT_102_32, rT_102_33, rT_102_34, h1, h5, g5', h10, g10', hcl, hin, nI_1]
        exact fin 0 (by unfold fgN; rw [if_neg g5, if_neg (by omega)])
      · have g10' : (10 ≤ i) = False := eq_false g10
        simp +decide only [e_117_3, e_117_5, e_117_8, e_117_9, e_117_12, e_117_13, e_117_14, e_117_15, e_117_18, e_117_19, e_117_21, e_117_24, e_117_25, e_117_28, e_117_29, e_117_30, e_117_33, ↓reduceIte, Int32.reduceAdd, Int32.reduceSub, an_0, an_1, an_2, an_3, an_4, an_5, tc_0, tc_1, tc_2, tc_3, tc_4, tc_5, tc_6, tc_7, tc_8, tc_9, tc_10, tc_11, tc_12, tc_13, tc_14, tc_15, tc_16, tc_17, tc_18, tc_19, tc_20, tc_21, tc_22, tc_23, tc_24, tc_25, tc_26, tc_27, tc_28, tc_29, tc_30, tc_31, tc_32, lcl_none, lcl_int, lcl_ref, lcl_null, lcl_long, okR_nil, okR_int, okR_ref, okR_null, okR_long, pushR_some, pushR_none, va_rf_some, va_rf_none, true_and, and_true, true_implies, false_implies, not_true_eq_false, not_false_eq_true, implies_true, bI_eq0, bI_eq1, bI_01, Classical.not_not, or_em, false_and, and_false, hS.1, hS.2.1, hS.2.2.1, hS.2.2.2.1, kT_102, kT_103, kT_104, kT_105, kT_106, kT_107, kT_108, kT_109, kT_110, kT_111, kT_112, kT_113, kT_114, kT_115, kT_116, kT_117, kT_118, kT_119, kT_120, nT_103, nT_104, nT_105, nT_106, nT_107, nT_108, nT_109, nT_110, nT_111, nT_112, nT_113, nT_114, nT_115, nT_116, nT_117, nT_118, nT_119, nT_120, rT_102_1, rT_102_12, rT_102_13, rT_102_14, rT_102_18, rT_102_19, rT_102_20, rT_102_21, rT_102_22, rT_102_23, rT_102_25, rT_102_26, rT_102_27, rT_102_30, rT_102_31, rT_102_32, rT_102_33, rT_102_34, h1, h5, g5', h10, g10', hcl, hin, nI_1]
        exact fin (-1) (by unfold fgN; rw [if_neg g5, if_pos (by omega)])
theorem c_forgetM {d : Nat} {b : Bool} {M : ab_M} (hd : 1 ≤ d) (hS : Sh b M) : EvD d 117 [.ref 102] M (fun r M1 => r = none ∧ Sh b M1 ∧ (∀ a, a ≠ 111 → mI M1 a = mI M a) ∧ ∀ k, k < 14 → mI M1 111 k = fgN k) := by
  rw [b_117 hd]
  simp +decide only [e_117_0, e_117_1, ↓reduceIte, Int32.reduceAdd, Int32.reduceSub, an_0, an_1, an_2, an_3, an_4, an_5, tc_0, tc_1, tc_2, tc_3, tc_4, tc_5, tc_6, tc_7, tc_8, tc_9, tc_10, tc_11, tc_12, tc_13, tc_14, tc_15, tc_16, tc_17, tc_18, tc_19, tc_20, tc_21, tc_22, tc_23, tc_24, tc_25, tc_26, tc_27, tc_28, tc_29, tc_30, tc_31, tc_32, lcl_none, lcl_int, lcl_ref, lcl_null, lcl_long, okR_nil, okR_int, okR_ref, okR_null, okR_long, pushR_some, pushR_none, va_rf_some, va_rf_none, true_and, and_true, true_implies, false_implies, not_true_eq_false, not_false_eq_true, implies_true, bI_eq0, bI_eq1, bI_01, Classical.not_not, or_em, false_and, and_false]
  exact L_fg (fun M1 h1 h2 h3 => ⟨rfl, h1, h2, h3⟩) 14 0 M (by omega) hS (fun _ _ => rfl) (fun k hk => absurd hk (Nat.not_lt_zero k))
theorem L_m1 {b hp : Bool} {D : Nat → Nat → Int32} {x : Option Value} {M0 : ab_M} {Q : ab_Q} (h15 : mI M0 102 15 = b01 hp) (h4 : hp = true → ∀ i, i < 4 → mI M0 104 i = D 1 i) (hz : hp = false → ∀ i, i < 4 → D 1 i = 0) (hQ : ∀ M1, Sh b M1 → (∀ a, a ≠ 107 → mI M1 a = mI M0 a) → (∀ k, k < 4 → mI M1 107 k = D 1 k) → Ev 6 134 91 [some (.ref 102), x, some (.int 4)] [] M1 Q) (hx : lcl x = x) : ∀ q i M, i + q = 4 → Sh b M → (∀ a, a ≠ 107 → mI M a = mI M0 a) → (∀ k, k < i → mI M 107 k = D 1 k) → Ev 6 134 57 [some (.ref 102), x, some (.int (nI i))] [] M Q := by
  intro q
  induction q with
  | zero =>
    intro i M hi hS hf hw
    have h1 : (4 ≤ nI i) = True := by rw [show i = 4 by omega]; exact eq_true (by decide)
    rw [e_134_57]
    simp +decide only [e_134_58, e_134_59, ↓reduceIte, Int32.reduceAdd, Int32.reduceSub, an_0, an_1, an_2, an_3, an_4, an_5, tc_0, tc_1, tc_2, tc_3, tc_4, tc_5, tc_6, tc_7, tc_8, tc_9, tc_10, tc_11, tc_12, tc_13, tc_14, tc_15, tc_16, tc_17, tc_18, tc_19, tc_20, tc_21, tc_22, tc_23, tc_24, tc_25, tc_26, tc_27, tc_28, tc_29, tc_30, tc_31, tc_32, lcl_none, lcl_int, lcl_ref, lcl_null, lcl_long, okR_nil, okR_int, okR_ref, okR_null, okR_long, pushR_some, pushR_none, va_rf_some, va_rf_none, true_and, and_true, true_implies, false_implies, not_true_eq_false, not_false_eq_true, implies_true, bI_eq0, bI_eq1, bI_01, Classical.not_not, or_em, false_and, and_false, h1]
    rw [show i = 4 by omega] at hw ⊢
    exact hQ M hS hf hw
  | succ q ih =>
    intro i M hi hS hf hw
    have h1 : (4 ≤ nI i) = False := by rw [show (4 : Int32) = nI 4 from rfl, nI_leE (by decide) (by omega)]; exact eq_false (by omega)
    have e15 : mI M 102 15 = b01 hp := by rw [hf 102 (by decide)]; exact h15
    have hcl : (nI i).toNatClampNeg = i := nI_clamp (by omega)
    have hin : inX (nI i) 4 = True := eq_true (inX_nI (by decide) (by omega))
    have fin : Ev 6 134 57 [some (.ref 102), x, some (.int (nI (i + 1)))] [] (wI M 107 i (D 1 i)) Q := by
      refine ih (i + 1) _ (by omega) hS (fun a ha => by rw [mI_wI_ne ha]; exact hf a ha) (fun k hk => ?_)
      rw [mI_wI]
      by_cases e : k = i
      · rw [if_pos ⟨rfl, e⟩, e]
      · rw [if_neg (fun z => e z.2)]
        exact hw k (by omega)
    rw [e_134_57]
    cases hp with
    | true =>
      have e15 : mI M 102 15 = 1 := e15
      have e4 : mI M 104 i = D 1 i := by rw [hf 104 (by decide)]; exact h4 rfl i (by omega)
      simp +decide only [e_134_58, e_134_59, e_134_62, e_134_63, e_134_66, e_134_67, e_134_68, e_134_71, e_134_74, e_134_75, e_134_78, e_134_79, e_134_80, e_134_83, e_134_84, e_134_85, e_134_88, ↓reduceIte, Int32.reduceAdd, Int32.reduceSub, an_0, an_1, an_2, an_3, an_4, an_5, tc_0, tc_1, tc_2, tc_3, tc_4, tc_5, tc_6, tc_7, tc_8, tc_9, tc_10, tc_11, tc_12, tc_13, tc_14, tc_15, tc_16, tc_17, tc_18, tc_19, tc_20, tc_21, tc_22, tc_23, tc_24, tc_25, tc_26, tc_27, tc_28, tc_29, tc_30, tc_31, tc_32, lcl_none, lcl_int, lcl_ref, lcl_null, lcl_long, okR_nil, okR_int, okR_ref, okR_null, okR_long, pushR_some, pushR_none, va_rf_some, va_rf_none, true_and, and_true, true_implies, false_implies, not_true_eq_false, not_false_eq_true, implies_true, bI_eq0, bI_eq1, bI_01, Classical.not_not, or_em, false_and, and_false, hS.1, hS.2.1, hS.2.2.1, hS.2.2.2.1, kT_102, kT_103, kT_104, kT_105, kT_106, kT_107, kT_108, kT_109, kT_110, kT_111, kT_112, kT_113, kT_114, kT_115, kT_116, kT_117, kT_118, kT_119, kT_120, nT_103, nT_104, nT_105, nT_106, nT_107, nT_108, nT_109, nT_110, nT_111, nT_112, nT_113, nT_114, nT_115, nT_116, nT_117, nT_118, nT_119, nT_120, rT_102_1, rT_102_12, rT_102_13, rT_102_14, rT_102_18, rT_102_19, rT_102_20, rT_102_21, rT_102_22, rT_102_23, rT_102_25, rT_102_26, rT_102_27, rT_102_30, rT_102_31, rT_102_32, rT_102_33, rT_102_34, h1, e15, hcl, hin, e4, nI_1, hx]
      exact fin
    | false =>
      have e15 : mI M 102 15 = 0 := e15
      rw [hz rfl i (by omega)] at fin
      simp +decide only [e_134_58, e_134_59, e_134_62, e_134_63, e_134_66, e_134_67, e_134_68, e_134_71, e_134_74, e_134_75, e_134_78, e_134_79, e_134_80, e_134_83, e_134_84, e_134_85, e_134_88, ↓reduceIte, Int32.reduceAdd, Int32.reduceSub, an_0, an_1, an_2, an_3, an_4, an_5, tc_0, tc_1, tc_2, tc_3, tc_4, tc_5, tc_6, tc_7, tc_8, tc_9, tc_10, tc_11, tc_12, tc_13, tc_14, tc_15, tc_16, tc_17, tc_18, tc_19, tc_20, tc_21, tc_22, tc_23, tc_24, tc_25, tc_26, tc_27, tc_28, tc_29, tc_30, tc_31, tc_32, lcl_none, lcl_int, lcl_ref, lcl_null, lcl_long, okR_nil, okR_int, okR_ref, okR_null, okR_long, pushR_some, pushR_none, va_rf_some, va_rf_none, true_and, and_true, true_implies, false_implies, not_true_eq_false, not_false_eq_true, implies_true, bI_eq0, bI_eq1, bI_01, Classical.not_not, or_em, false_and, and_false, hS.1, hS.2.1, hS.2.2.1, hS.2.2.2.1, kT_102, kT_103, kT_104, kT_105, kT_106, kT_107, kT_108, kT_109, kT_110, kT_111, kT_112, kT_113, kT_114, kT_115, kT_116, kT_117, kT_118, kT_119, kT_120, nT_103, nT_104, nT_105, nT_106, nT_107, nT_108, nT_109, nT_110, nT_111, nT_112, nT_113, nT_114, nT_115, nT_116, nT_117, nT_118, nT_119, nT_120, rT_102_1, rT_102_12, rT_102_13, rT_102_14, rT_102_18, rT_102_19, rT_102_20, rT_102_21, rT_102_22, rT_102_23, rT_102_25, rT_102_26, rT_102_27, rT_102_30, rT_102_31, rT_102_32, rT_102_33, rT_102_34, h1, e15, hcl, hin, nI_1, hx]
      exact fin
theorem L_m2 {n : Nat} {b : Bool} {D : Nat → Nat → Int32} {x : Option Value} {M0 : ab_M} {Q : ab_Q} (hn : n ≤ 5) (h16 : mI M0 102 16 = nI n) (h5 : ∀ k, k < n → mI M0 105 (2 * k) = D 2 k ∧ mI M0 105 (2 * k + 1) = D 3 k) (hQ : ∀ M1, Sh b M1 → (∀ a, a ≠ 108 → a ≠ 109 → mI M1 a = mI M0 a) → (∀ k, k < n → mI M1 108 k = D 2 k ∧ mI M1 109 k = D 3 k) → Ev 6 134 137 [some (.ref 102), x, some (.int (nI n))] [] M1 Q) (hx : lcl x = x) : ∀ q i M, i + q = n → Sh b M → (∀ a, a ≠ 108 → a ≠ 109 → mI M a = mI M0 a) → (∀ k, k < i → mI M 108 k = D 2 k ∧ mI M 109 k = D 3 k) → Ev 6 134 93 [some (.ref 102), x, some (.int (nI i))] [] M Q := by
  intro q
  induction q with
  | zero =>
    intro i M hi hS hf hw
    have e16 : mI M 102 16 = nI n := by rw [hf 102 (by decide) (by decide)]; exact h16
    have h1 : (nI n ≤ nI i) = True := by rw [nI_leE (by omega) (by omega)]; exact eq_true (by omega)
    rw [e_134_93]
    simp +decide only [e_134_94, e_134_95, e_134_98, ↓reduceIte, Int32.reduceAdd, Int32.reduceSub, an_0, an_1, an_2, an_3, an_4, an_5, tc_0, tc_1, tc_2, tc_3, tc_4, tc_5, tc_6, tc_7, tc_8, tc_9, tc_10, tc_11, tc_12, tc_13, tc_14, tc_15, tc_16, tc_17, tc_18, tc_19, tc_20, tc_21, tc_22, tc_23, tc_24, tc_25, tc_26, tc_27, tc_28, tc_29, tc_30, tc_31, tc_32, lcl_none, lcl_int, lcl_ref, lcl_null, lcl_long, okR_nil, okR_int, okR_ref, okR_null, okR_long, pushR_some, pushR_none, va_rf_some, va_rf_none, true_and, and_true, true_implies, false_implies, not_true_eq_false, not_false_eq_true, implies_true, bI_eq0, bI_eq1, bI_01, Classical.not_not, or_em, false_and, and_false, hS.1, hS.2.1, hS.2.2.1, hS.2.2.2.1, kT_102, kT_103, kT_104, kT_105, kT_106, kT_107, kT_108, kT_109, kT_110, kT_111, kT_112, kT_113, kT_114, kT_115, kT_116, kT_117, kT_118, kT_119, kT_120, nT_103, nT_104, nT_105, nT_106, nT_107, nT_108, nT_109, nT_110, nT_111, nT_112, nT_113, nT_114, nT_115, nT_116, nT_117, nT_118, nT_119, nT_120, rT_102_1, rT_102_12, rT_102_13, rT_102_14, rT_102_18, rT_102_19, rT_102_20, rT_102_21, rT_102_22, rT_102_23, rT_102_25, rT_102_26, rT_102_27, rT_102_30, rT_102_31, rT_102_32, rT_102_33, rT_102_34, e16, h1]
    rw [show i = n by omega] at hw ⊢
    exact hQ M hS hf hw
  | succ q ih =>
    intro i M hi hS hf hw
    have e16 : mI M 102 16 = nI n := by rw [hf 102 (by decide) (by decide)]; exact h16
    have h1 : (nI n ≤ nI i) = False := by rw [nI_leE (by omega) (by omega)]; exact eq_false (by omega)
    have hcl : (nI i).toNatClampNeg = i := nI_clamp (by omega)
    have hin : inX (nI i) 5 = True := eq_true (inX_nI (by decide) (by omega))
    have i2 : (2 : Int32) * nI i = nI (2 * i) := pk_mul 2 i
    have c0 : (nI (2 * i)).toNatClampNeg = 2 * i := nI_clamp (by omega)
    have c1 : (nI (2 * i + 1)).toNatClampNeg = 2 * i + 1 := nI_clamp (by omega)
    have x0 : inX (nI (2 * i)) 10 = True := eq_true (inX_nI (by decide) (by omega))
    have x1 : inX (nI (2 * i + 1)) 10 = True := eq_true (inX_nI (by decide) (by omega))
    have a0 : mI M 105 (2 * i) = D 2 i := by rw [hf 105 (by decide) (by decide)]; exact (h5 i (by omega)).1
    have a1 : mI (wI M 108 i (D 2 i)) 105 (2 * i + 1) = D 3 i := by rw [mI_wI_ne (by decide), hf 105 (by decide) (by decide)]; exact (h5 i (by omega)).2
    rw [e_134_93]
    simp +decide only [e_134_94, e_134_95, e_134_98, e_134_101, e_134_102, e_134_105, e_134_106, e_134_107, e_134_110, e_134_111, e_134_112, e_134_113, e_134_114, e_134_115, e_134_116, e_134_119, e_134_120, e_134_121, e_134_124, e_134_125, e_134_126, e_134_127, e_134_128, e_134_129, e_134_130, e_134_131, e_134_134, ↓reduceIte, Int32.reduceAdd, Int32.reduceSub, an_0, an_1, an_2, an_3, an_4, an_5, tc_0, tc_1, tc_2, tc_3, tc_4, tc_5, tc_6, tc_7, tc_8, tc_9, tc_10, tc_11, tc_12, tc_13, tc_14, tc_15, tc_16, tc_17, tc_18, tc_19, tc_20, tc_21, tc_22, tc_23, tc_24, tc_25, tc_26, tc_27, tc_28, tc_29, tc_30, tc_31, tc_32, lcl_none, lcl_int, lcl_ref, lcl_null, lcl_long, okR_nil, okR_int, okR_ref, okR_null, okR_long, pushR_some, pushR_none, va_rf_some, va_rf_none, true_and, and_true, true_implies, false_implies, not_true_eq_false, not_false_eq_true, implies_true, bI_eq0, bI_eq1, bI_01, Classical.not_not, or_em, false_and, and_false, hS.1, hS.2.1, hS.2.2.1, hS.2.2.2.1, kT_102, kT_103, kT_104, kT_105, kT_106, kT_107, kT_108, kT_109, kT_110, kT_111, kT_112, kT_113, kT_114, kT_115, kT_116, kT_117, kT_118, kT_119, kT_120, nT_103, nT_104, nT_105, nT_106, nT_107, nT_108, nT_109, nT_110, nT_111, nT_112, nT_113, nT_114, nT_115, nT_116, nT_117, nT_118, nT_119, nT_120, rT_102_1, rT_102_12, rT_102_13, rT_102_14, rT_102_18, rT_102_19, rT_102_20, rT_102_21, rT_102_22, rT_102_23, rT_102_25, rT_102_26, rT_102_27, rT_102_30, rT_102_31, rT_102_32, rT_102_33, rT_102_34, mK_wI, mN_wI, mR_wI, e16, h1, hcl, hin, i2, c0, c1, x0, x1, a0, a1, nI_1, hx]
    refine ih (i + 1) _ (by omega) hS (fun a h8 h9 => by rw [mI_wI_ne h9, mI_wI_ne h8]; exact hf a h8 h9) (fun k hk => ?_)
    rw [mI_wI_ne (a := 109) (b := 108) (by decide), mI_wI, mI_wI (a := 109)]
    by_cases e : k = i
    · rw [if_pos ⟨rfl, e⟩, if_pos ⟨rfl, e⟩, e]
      exact ⟨rfl, rfl⟩
    · rw [if_neg (fun z => e z.2), if_neg (fun z => e z.2), mI_wI_ne (by decide)]
      exact hw k (by omega)
def nwS (D : Nat → Nat → Int32) (j k : Nat) : Int32 := if k < 5 then (if k < j then D 4 k else 0) else if k < 10 then hoF D j (k - 5) else 0
theorem L_m3 {n m : Nat} {b : Bool} {D : Nat → Nat → Int32} {x : Option Value} {M0 : ab_M} {Q : ab_Q} (hn : n ≤ 5) (hm : m ≤ 5) (h17 : mI M0 102 17 = nI m) (h6 : ∀ j, j < m → (mI M0 106 (3 * j) = D 4 j ∧ mI M0 106 (3 * j + 1) = D 5 j ∧ mI M0 106 (3 * j + 2) = D 6 j) ∧ ∃ l, l < n ∧ D 6 j = nI l) (hQ : ∀ M1, Sh b M1 → (∀ a, a ≠ 110 → a ≠ 111 → mI M1 a = mI M0 a) → (∀ k, k < m → mI M1 110 k = D 5 k) → (∀ k, k < 14 → mI M1 111 k = nwS D m k) → Ev 6 134 201 [some (.ref 102), x, some (.int (nI m))] [] M1 Q) (hx : lcl x = x) : ∀ q j M, j + q = m → Sh b M → (∀ a, a ≠ 110 → a ≠ 111 → mI M a = mI M0 a) → (∀ k, k < j → mI M 110 k = D 5 k) → (∀ k, k < 14 → mI M 111 k = nwS D j k) → Ev 6 134 139 [some (.ref 102), x, some (.int (nI j))] [] M Q := by
  intro q
  induction q with
  | zero =>
    intro j M hj hS hf hw hw2
    have e17 : mI M 102 17 = nI m := by rw [hf 102 (by decide) (by decide)]; exact h17
    have h1 : (nI m ≤ nI j) = True := by rw [nI_leE (by omega) (by omega)]; exact eq_true (by omega)
    rw [e_134_139]
    simp +decide only [e_134_140, e_134_141, e_134_144, ↓reduceIte, Int32.reduceAdd, Int32.reduceSub, an_0, an_1, an_2, an_3, an_4, an_5, tc_0, tc_1, tc_2, tc_3, tc_4, tc_5, tc_6, tc_7, tc_8, tc_9, tc_10, tc_11, tc_12, tc_13, tc_14, tc_15, tc_16, tc_17, tc_18, tc_19, tc_20, tc_21, tc_22, tc_23, tc_24, tc_25, tc_26, tc_27, tc_28, tc_29, tc_30, tc_31, tc_32, lcl_none, lcl_int, lcl_ref, lcl_null, lcl_long, okR_nil, okR_int, okR_ref, okR_null, okR_long, pushR_some, pushR_none, va_rf_some, va_rf_none, true_and, and_true, true_implies, false_implies, not_true_eq_false, not_false_eq_true, implies_true, bI_eq0, bI_eq1, bI_01, Classical.not_not, or_em, false_and, and_false, hS.1, hS.2.1, hS.2.2.1, hS.2.2.2.1, kT_102, kT_103, kT_104, kT_105, kT_106, kT_107, kT_108, kT_109, kT_110, kT_111, kT_112, kT_113, kT_114, kT_115, kT_116, kT_117, kT_118, kT_119, kT_120, nT_103, nT_104, nT_105, nT_106, nT_107, nT_108, nT_109, nT_110, nT_111, nT_112, nT_113, nT_114, nT_115, nT_116, nT_117, nT_118, nT_119, nT_120, rT_102_1, rT_102_12, rT_102_13, rT_102_14, rT_102_18, rT_102_19, rT_102_20, rT_102_21, rT_102_22, rT_102_23, rT_102_25, rT_102_26, rT_102_27, rT_102_30, rT_102_31, rT_102_32, rT_102_33, rT_102_34, e17, h1]
    rw [show j = m by omega] at hw hw2 ⊢
    exact hQ M hS hf hw hw2
  | succ q ih =>
    intro j M hj hS hf hw hw2
    have e17 : mI M 102 17 = nI m := by rw [hf 102 (by decide) (by decide)]; exact h17
    have h1 : (nI m ≤ nI j) = False := by rw [nI_leE (by omega) (by omega)]; exact eq_false (by omega)
    obtain ⟨⟨b0, b1, b2⟩, l, hl, el⟩ := h6 j (by omega)
    have hcl : (nI j).toNatClampNeg = j := nI_clamp (by omega)
    have hin : inX (nI j) 5 = True := eq_true (inX_nI (by decide) (by omega))
    have hin14 : inX (nI j) 14 = True := eq_true (inX_nI (by decide) (by omega))
    have i3 : (3 : Int32) * nI j = nI (3 * j) := pk_mul 3 j
    have i2 : nI (3 * j) + 2 = nI (3 * j + 2) := nI_add (3 * j) 2
    have i5 : (5 : Int32) + nI l = nI (5 + l) := nI_add 5 l
    have c0 : (nI (3 * j)).toNatClampNeg = 3 * j := nI_clamp (by omega)
    have c1 : (nI (3 * j + 1)).toNatClampNeg = 3 * j + 1 := nI_clamp (by omega)
    have c2 : (nI (3 * j + 2)).toNatClampNeg = 3 * j + 2 := nI_clamp (by omega)
    have c5 : (nI (5 + l)).toNatClampNeg = 5 + l := nI_clamp (by omega)
    have x0 : inX (nI (3 * j)) 15 = True := eq_true (inX_nI (by decide) (by omega))
    have x1 : inX (nI (3 * j + 1)) 15 = True := eq_true (inX_nI (by decide) (by omega))
    have x2 : inX (nI (3 * j + 2)) 15 = True := eq_true (inX_nI (by decide) (by omega))
    have x5 : inX (nI (5 + l)) 14 = True := eq_true (inX_nI (by decide) (by omega))
    have a0 : mI M 106 (3 * j) = D 4 j := by rw [hf 106 (by decide) (by decide)]; exact b0
    have a1 : mI (wI M 111 j (D 4 j)) 106 (3 * j + 1) = D 5 j := by rw [mI_wI_ne (by decide), hf 106 (by decide) (by decide)]; exact b1
    have a2 : mI (wI (wI M 111 j (D 4 j)) 110 j (D 5 j)) 106 (3 * j + 2) = nI l := by rw [mI_wI_ne (by decide), mI_wI_ne (by decide), hf 106 (by decide) (by decide), ← el]; exact b2
    rw [e_134_139]
    simp +decide only [e_134_140, e_134_141, e_134_144, e_134_147, e_134_148, e_134_151, e_134_152, e_134_153, e_134_156, e_134_157, e_134_158, e_134_159, e_134_160, e_134_161, e_134_162, e_134_165, e_134_166, e_134_167, e_134_170, e_134_171, e_134_172, e_134_173, e_134_174, e_134_175, e_134_176, e_134_177, e_134_178, e_134_181, e_134_182, e_134_183, e_134_186, e_134_187, e_134_188, e_134_189, e_134_190, e_134_191, e_134_192, e_134_193, e_134_194, e_134_195, e_134_198, ↓reduceIte, Int32.reduceAdd, Int32.reduceSub, an_0, an_1, an_2, an_3, an_4, an_5, tc_0, tc_1, tc_2, tc_3, tc_4, tc_5, tc_6, tc_7, tc_8, tc_9, tc_10, tc_11, tc_12, tc_13, tc_14, tc_15, tc_16, tc_17, tc_18, tc_19, tc_20, tc_21, tc_22, tc_23, tc_24, tc_25, tc_26, tc_27, tc_28, tc_29, tc_30, tc_31, tc_32, lcl_none, lcl_int, lcl_ref, lcl_null, lcl_long, okR_nil, okR_int, okR_ref, okR_null, okR_long, pushR_some, pushR_none, va_rf_some, va_rf_none, true_and, and_true, true_implies, false_implies, not_true_eq_false, not_false_eq_true, implies_true, bI_eq0, bI_eq1, bI_01, Classical.not_not, or_em, false_and, and_false, hS.1, hS.2.1, hS.2.2.1, hS.2.2.2.1, kT_102, kT_103, kT_104, kT_105, kT_106, kT_107, kT_108, kT_109, kT_110, kT_111, kT_112, kT_113, kT_114, kT_115, kT_116, kT_117, kT_118, kT_119, kT_120, nT_103, nT_104, nT_105, nT_106, nT_107, nT_108, nT_109, nT_110, nT_111, nT_112, nT_113, nT_114, nT_115, nT_116, nT_117, nT_118, nT_119, nT_120, rT_102_1, rT_102_12, rT_102_13, rT_102_14, rT_102_18, rT_102_19, rT_102_20, rT_102_21, rT_102_22, rT_102_23, rT_102_25, rT_102_26, rT_102_27, rT_102_30, rT_102_31, rT_102_32, rT_102_33, rT_102_34, mK_wI, mN_wI, mR_wI, e17, h1, hcl, hin, hin14, i3, i2, i5, c0, c1, c2, c5, x0, x1, x2, x5, a0, a1, a2, nI_1, hx]
    refine ih (j + 1) _ (by omega) hS (fun a h8 h9 => by rw [mI_wI_ne h9, mI_wI_ne h8, mI_wI_ne h9]; exact hf a h8 h9) (fun k hk => ?_) (fun k hk => ?_)
    · rw [mI_wI_ne (by decide), mI_wI]
      by_cases e : k = j
      · rw [if_pos ⟨rfl, e⟩, e]
      · rw [if_neg (fun z => e z.2), mI_wI_ne (by decide)]
        exact hw k (by omega)
    · have hk5 : ∀ k, k < 10 → 5 ≤ k → nwS D (j + 1) k = if k = 5 + l then nI j else nwS D j k := fun k h10 h5 => by
        have e1 : nwS D (j + 1) k = hoF D (j + 1) (k - 5) := by unfold nwS; rw [if_neg (by omega), if_pos h10]
        have e2 : nwS D j k = hoF D j (k - 5) := by unfold nwS; rw [if_neg (by omega), if_pos h10]
        rw [e1, e2]
        show (if D 6 j = nI (k - 5) then nI j else hoF D j (k - 5)) = _
        rw [el]
        by_cases e : k = 5 + l
        · rw [if_pos e, if_pos (by rw [show k - 5 = l by omega])]
        · rw [if_neg e, if_neg (fun z => e (by have := (nI_eq (by omega) (by omega)).mp z; omega))]
      rw [mI_wI]
      by_cases e : k = 5 + l
      · rw [if_pos ⟨rfl, e⟩, hk5 k (by omega) (by omega), if_pos e]
      · rw [if_neg (fun z => e z.2), mI_wI_ne (by decide), mI_wI]
        by_cases e2 : k = j
        · have e3 : nwS D (j + 1) k = D 4 j := by unfold nwS; rw [if_pos (by omega), if_pos (by omega), e2]
          rw [if_pos ⟨rfl, e2⟩, e3]
        · rw [if_neg (fun z => e2 z.2), hw2 k hk]
          by_cases h5 : k < 5
          · unfold nwS
            rw [if_pos h5, if_pos h5]
            by_cases h6 : k < j
            · rw [if_pos h6, if_pos (by omega)]
            · rw [if_neg h6, if_neg (by omega)]
          · by_cases h10 : k < 10
            · rw [hk5 k h10 (by omega), if_neg e]
            · unfold nwS
              rw [if_neg h5, if_neg h10, if_neg h5, if_neg h10]
