/-! draws -/
def nxS (s : Int32) : Int32 := (s.toInt64 * 1103515245 + 12345 - (s.toInt64 * 1103515245 + 12345) / 2147483648 * 2147483648).toInt32
def drS (s : Int32) : Int32 := s / 65536 - s / 65536 / 100 * 100
theorem nxS_nn {s : Int32} (h : 0 ≤ s) : 0 ≤ nxS s := by
  have h0 : (0 : Int) ≤ s.toInt := by simpa using Int32.le_iff_toInt_le.mp h
  have h1 : s.toInt < 2147483648 := by have := Int32.toInt_lt s; omega
  have e1 : (s.toInt64 * 1103515245).toInt = s.toInt * 1103515245 := by
    rw [Int64.toInt_mul, Int32.toInt_toInt64, show (1103515245 : Int64).toInt = 1103515245 by decide]
    exact Int.bmod_eq_of_le (by omega) (by omega)
  have e2 : (s.toInt64 * 1103515245 + 12345).toInt = s.toInt * 1103515245 + 12345 := by
    rw [Int64.toInt_add, e1, show (12345 : Int64).toInt = 12345 by decide]
    exact Int.bmod_eq_of_le (by omega) (by omega)
  unfold nxS
  generalize s.toInt64 * 1103515245 + 12345 = x at e2
  have hv : 0 ≤ s.toInt * 1103515245 + 12345 := by omega
  have hv2 : s.toInt * 1103515245 + 12345 < 4000000000000000000 := by omega
  generalize s.toInt * 1103515245 + 12345 = v at e2 hv hv2
  have e3 : (x / 2147483648).toInt = v / 2147483648 := by
    rw [Int64.toInt_div, e2, show (2147483648 : Int64).toInt = 2147483648 by decide, Int.tdiv_eq_ediv_of_nonneg hv]
    exact Int.bmod_eq_of_le (by omega) (by omega)
  have e4 : (x / 2147483648 * 2147483648).toInt = v / 2147483648 * 2147483648 := by
    rw [Int64.toInt_mul, e3, show (2147483648 : Int64).toInt = 2147483648 by decide]
    exact Int.bmod_eq_of_le (by omega) (by omega)
  have e5 : (x - x / 2147483648 * 2147483648).toInt = v % 2147483648 := by
    rw [Int64.toInt_sub, e2, e4, show v - v / 2147483648 * 2147483648 = v % 2147483648 by omega]
    exact Int.bmod_eq_of_le (by omega) (by omega)
  rw [Int32.le_iff_toInt_le, Int64.toInt_toInt32, e5, Int.bmod_eq_of_le (by omega) (by omega)]
  simp only [Int32.toInt_zero]
  omega
theorem c_drawC {d : Nat} {b : Bool} {M : ab_M} {K : ab_Q} (hd : 1 ≤ d) (hS : Sh b M) : EvD d 19 [.ref 92, .int 100] M K = K (some (.int (drS (nxS (mI M 92 0))))) (wI M 92 0 (nxS (mI M 92 0))) := by
  rw [b_19 hd]
  simp +decide only [e_19_0, e_19_1, e_19_2, e_19_5, e_19_6, e_19_9, e_19_10, e_19_13, e_19_14, e_19_17, e_19_18, e_19_19, e_19_22, e_19_23, e_19_26, e_19_27, e_19_30, e_19_32, e_19_33, e_19_34, e_19_35, e_19_38, e_19_39, ↓reduceIte, Int32.reduceAdd, Int32.reduceSub, an_0, an_1, an_2, an_3, an_4, an_5, tc_0, tc_1, tc_2, tc_3, tc_4, tc_5, tc_6, tc_7, tc_8, tc_9, tc_10, tc_11, tc_12, tc_13, tc_14, tc_15, tc_16, tc_17, tc_18, tc_19, tc_20, tc_21, tc_22, tc_23, tc_24, tc_25, tc_26, tc_27, tc_28, tc_29, tc_30, tc_31, tc_32, lcl_none, lcl_int, lcl_ref, lcl_null, lcl_long, okR_nil, okR_int, okR_ref, okR_null, okR_long, pushR_some, pushR_none, va_rf_some, va_rf_none, true_and, and_true, true_implies, false_implies, not_true_eq_false, not_false_eq_true, implies_true, bI_eq0, bI_eq1, bI_01, Classical.not_not, or_em, false_and, and_false, hS.1, hS.2.1, hS.2.2.1, hS.2.2.2.1, kT_0, kT_1, kT_2, kT_15, kT_16, kT_17, kT_18, kT_19, kT_80, kT_81, kT_82, kT_89, kT_90, kT_91, kT_92, kT_93, kT_94, kT_95, kT_96, kT_97, kT_98, kT_99, kT_100, kT_101, nT_2, nT_16, nT_17, nT_19, nT_81, nT_82, nT_90, nT_91, nT_94, nT_95, nT_97, nT_98, nT_100, nT_101, rT_0_0, rT_0_3, rT_0_4, rT_0_5, rT_0_6, rT_0_7, rT_0_8, rT_0_9, rT_0_10, rT_1_0, rT_15_0, rT_15_1, rT_18_0, rT_80_0, rT_80_1, rT_89_0, rT_89_1, rT_93_6, rT_93_7, rT_96_0, rT_96_1, rT_99_0, rT_99_1, mI_wI, mI_wJ, mI_wR, mJ_wI, mJ_wJ, mJ_wR, mR_wI, mR_wJ, mR_wR, mK_wI, mK_wJ, mK_wR, mN_wI, mN_wJ, mN_wR, mZ_wI, mZ_wJ, mZ_wR]
  rfl
theorem c_drawM {d : Nat} {b : Bool} {M : ab_M} {K : ab_Q} (hd : 1 ≤ d) (hS : Sh b M) : EvD d 153 [.ref 102] M K = K (some (.int (drS (nxS (mI M 102 28))))) (wI M 102 28 (nxS (mI M 102 28))) := by
  rw [b_153 hd]
  simp +decide only [e_153_0, e_153_1, e_153_2, e_153_5, e_153_6, e_153_9, e_153_10, e_153_13, e_153_14, e_153_17, e_153_18, e_153_19, e_153_22, e_153_23, e_153_26, e_153_28, e_153_29, e_153_31, e_153_32, ↓reduceIte, Int32.reduceAdd, Int32.reduceSub, an_0, an_1, an_2, an_3, an_4, an_5, tc_0, tc_1, tc_2, tc_3, tc_4, tc_5, tc_6, tc_7, tc_8, tc_9, tc_10, tc_11, tc_12, tc_13, tc_14, tc_15, tc_16, tc_17, tc_18, tc_19, tc_20, tc_21, tc_22, tc_23, tc_24, tc_25, tc_26, tc_27, tc_28, tc_29, tc_30, tc_31, tc_32, lcl_none, lcl_int, lcl_ref, lcl_null, lcl_long, okR_nil, okR_int, okR_ref, okR_null, okR_long, pushR_some, pushR_none, va_rf_some, va_rf_none, true_and, and_true, true_implies, false_implies, not_true_eq_false, not_false_eq_true, implies_true, bI_eq0, bI_eq1, bI_01, Classical.not_not, or_em, false_and, and_false, hS.1, hS.2.1, hS.2.2.1, hS.2.2.2.1, kT_102, kT_103, kT_104, kT_105, kT_106, kT_107, kT_108, kT_109, kT_110, kT_111, kT_112, kT_113, kT_114, kT_115, kT_116, kT_117, kT_118, kT_119, kT_120, nT_103, nT_104, nT_105, nT_106, nT_107, nT_108, nT_109, nT_110, nT_111, nT_112, nT_113, nT_114, nT_115, nT_116, nT_117, nT_118, nT_119, nT_120, rT_102_1, rT_102_12, rT_102_13, rT_102_14, rT_102_18, rT_102_19, rT_102_20, rT_102_21, rT_102_22, rT_102_23, rT_102_25, rT_102_26, rT_102_27, rT_102_30, rT_102_31, rT_102_32, rT_102_33, rT_102_34, mI_wI, mI_wJ, mI_wR, mJ_wI, mJ_wJ, mJ_wR, mR_wI, mR_wJ, mR_wR, mK_wI, mK_wJ, mK_wR, mN_wI, mN_wJ, mN_wR, mZ_wI, mZ_wJ, mZ_wR]
  rfl
theorem RC_sd {b : Bool} {M : ab_M} {σ : Sg} {v : Int32} (hC : RC b M σ) : RC b (wI M 92 0 v) (u2 σ 0 4 v) := by
  have hb := chL_cases b
  refine RC_sc hC (fun a ha => mI_wI_ne (by omega)) (congrFun (mI_wI_ne (by decide)) 1) ?_ (fun j hj => u2_ne hj) (u2_nk (by decide)) (u2_nk (by decide)) (u2_nk (by decide))
  have h0 := hC.1
  rcases hb with e | e <;> simp only [RC0, e] at h0 ⊢ <;> simp [mI_wI, u2, h0]
theorem RM_sd {M : ab_M} {σ : Sg} {v : Int32} (hM : RM M σ) : RM (wI M 102 28 v) (u2 σ 0 4 v) := by
  refine RM_sc hM (fun a ha => mI_wI_ne (by omega)) ?_ (fun j hj => u2_ne hj) (u2_nk (by decide)) (u2_nk (by decide)) (u2_nk (by decide))
  have h0 := hM.1
  simp only [RM0] at h0 ⊢
  simp [mI_wI, u2, h0]
theorem IV_sd {L P : Nat} {σ : Sg} {v : Int32} (hI : IV L P σ) (h1 : 0 ≤ v) : IV L P (u2 σ 0 4 v) := IV_sc hI (fun j hj _ _ _ => u2_ne hj) (u2_nk (by decide)) (u2_nk (by decide)) (u2_nk (by decide)) (u2_nk (by decide)) (by rw [u2_at]; exact h1) (by rw [u2_nk (by decide)]; exact hI.2.1) (by rw [u2_nk (by decide), u2_ne (by decide)]; exact hI.2.2.2.1)
theorem RC_al {b : Bool} {M : ab_M} {σ : Sg} {v : Int32} (hC : RC b M σ) : RC b (wI M 15 2 v) (uS σ (upS (σ 5) 10 v)) := by
  refine RC_now hC (fun a ha => mI_wI_ne (by omega)) ?_
  obtain ⟨q1, q2, q3, q4, q5, q6⟩ := hC.2.2.1
  refine ⟨fun k hk => ?_, fun k hk => ?_, ?_, ?_, ?_, ?_⟩
  · rw [mI_wI_ne (by decide), q1 k hk, upS_ne (by omega)]
  · rw [mI_wI_ne (by decide), q2 k hk, upS_ne (by omega)]
  · rw [mI_wI, if_pos ⟨rfl, rfl⟩, upS_at]
  · rw [mI_wI, if_neg (by decide), q4, upS_ne (by decide)]
  · rw [mI_wI, if_neg (by decide), q5, upS_ne (by decide)]
  · rw [mI_wI, if_neg (by decide), q6, upS_ne (by decide)]
theorem RM_al {M : ab_M} {σ : Sg} {v : Int32} (hM : RM M σ) : RM (wI M 111 10 v) (uS σ (upS (σ 5) 10 v)) := by
  refine RM_now hM (fun a ha => mI_wI_ne ha) (fun k hk => ?_)
  by_cases h10 : k = 10
  · rw [h10, mI_wI, if_pos ⟨rfl, rfl⟩, upS_at]
  · rw [mI_wI, if_neg (fun z => h10 z.2), hM.2.2.1 k hk, upS_ne h10]
/-- one life draws -/
def ddG (σ : Sg) (l : Nat) : Sg := if hasB (σ 5 10) (nI l) = true then (if drS (nxS (σ 0 4)) < chnS σ l (nI l) then uS (u2 σ 0 4 (nxS (σ 0 4))) (diS (σ 5) (nI l)) else u2 σ 0 4 (nxS (σ 0 4))) else σ
def dlG (σ : Sg) : Nat → Sg
  | 0 => σ
  | l + 1 => ddG (dlG σ l) l
theorem dlG_s {σ : Sg} {l : Nat} : dlG σ (l + 1) = ddG (dlG σ l) l := rfl
theorem ddG_n {σ : Sg} {l : Nat} (h : hasB (σ 5 10) (nI l) = false) : ddG σ l = σ := by
  unfold ddG
  rw [h, if_neg (by decide)]
theorem ddG_t {σ : Sg} {l : Nat} {v w : Int32} (h : hasB (σ 5 10) (nI l) = true) (hv : nxS (σ 0 4) = v) (hw : drS v = w) (hd : w < chnS σ l (nI l)) : ddG σ l = uS (u2 σ 0 4 v) (diS (σ 5) (nI l)) := by
  unfold ddG
  rw [if_pos h, hv, hw, if_pos hd]
theorem ddG_f {σ : Sg} {l : Nat} {v w : Int32} (h : hasB (σ 5 10) (nI l) = true) (hv : nxS (σ 0 4) = v) (hw : drS v = w) (hd : ¬ w < chnS σ l (nI l)) : ddG σ l = u2 σ 0 4 v := by
  unfold ddG
  rw [if_pos h, hv, hw, if_neg hd]
theorem IV_ddG {L P l : Nat} {σ : Sg} (hI : IV L P σ) (hl : l < L) : IV L P (ddG σ l) := by
  unfold ddG
  have h1 := IV_sd (v := nxS (σ 0 4)) hI (nxS_nn hI.1.2.2.2.2.2)
  have hL := (IV_n hI).1
  by_cases h : hasB (σ 5 10) (nI l) = true
  · rw [if_pos h]
    by_cases h2 : drS (nxS (σ 0 4)) < chnS σ l (nI l)
    · rw [if_pos h2]
      exact IV_uS h1 (SI_di hL hI.2.2.2.2.2.2.2.1 (by omega))
    · rw [if_neg h2]
      exact h1
  · rw [if_neg h]
    exact hI
theorem IV_dlG {L P : Nat} {σ : Sg} (hI : IV L P σ) : ∀ l, l ≤ L → IV L P (dlG σ l) := by
  intro l
  induction l with
  | zero => intro _; exact hI
  | succ l ih => intro h; exact IV_ddG (ih (by omega)) (by omega)
/-! the class draws the deaths of a year -/
theorem L_ddC {L P : Nat} {b : Bool} {σ : Sg} {M0 : ab_M} {Q : ab_Q} (hI : IV L P σ) (hQ : ∀ M1, Sh b M1 → frC M0 M1 → RC b M1 (dlG σ L) → Q none M1) : ∀ m l M, l + m = L → Sh b M → frC M0 M → RC b M (dlG σ l) → Ev 2 109 2 [some (.ref 0), some (.int (nI l))] [] M Q := by
  have hL := (IV_n hI).1
  intro m
  induction m with
  | zero =>
    intro l M hl hS hf hC
    have e : l = L := by omega
    subst e
    have a1 : mI M (chL b) 5 = nI l := hC.1.1.1.trans (IV_n (IV_dlG hI l (Nat.le_refl l))).2.2.1
    have h1 : (nI l ≤ nI l) = True := eq_true (Int32.le_refl _)
    rw [e_109_2]
    simp +decide only [e_109_3, e_109_4, e_109_7, e_109_10, e_109_64, ↓reduceIte, Int32.reduceAdd, Int32.reduceSub, an_0, an_1, an_2, an_3, an_4, an_5, tc_0, tc_1, tc_2, tc_3, tc_4, tc_5, tc_6, tc_7, tc_8, tc_9, tc_10, tc_11, tc_12, tc_13, tc_14, tc_15, tc_16, tc_17, tc_18, tc_19, tc_20, tc_21, tc_22, tc_23, tc_24, tc_25, tc_26, tc_27, tc_28, tc_29, tc_30, tc_31, tc_32, lcl_none, lcl_int, lcl_ref, lcl_null, lcl_long, okR_nil, okR_int, okR_ref, okR_null, okR_long, pushR_some, pushR_none, va_rf_some, va_rf_none, true_and, and_true, true_implies, false_implies, not_true_eq_false, not_false_eq_true, implies_true, bI_eq0, bI_eq1, bI_01, Classical.not_not, or_em, false_and, and_false, hS.1, hS.2.1, hS.2.2.1, hS.2.2.2.1, kT_0, kT_1, kT_2, kT_15, kT_16, kT_17, kT_18, kT_19, kT_80, kT_81, kT_82, kT_89, kT_90, kT_91, kT_92, kT_93, kT_94, kT_95, kT_96, kT_97, kT_98, kT_99, kT_100, kT_101, nT_2, nT_16, nT_17, nT_19, nT_81, nT_82, nT_90, nT_91, nT_94, nT_95, nT_97, nT_98, nT_100, nT_101, rT_0_0, rT_0_3, rT_0_4, rT_0_5, rT_0_6, rT_0_7, rT_0_8, rT_0_9, rT_0_10, rT_1_0, rT_15_0, rT_15_1, rT_18_0, rT_80_0, rT_80_1, rT_89_0, rT_89_1, rT_93_6, rT_93_7, rT_96_0, rT_96_1, rT_99_0, rT_99_1, chS1, chK, chR7, chK7, chN7, chR8, chK8, chN8, chR9, chK9, chN9, chR10, chK10, chN10, chR11, chK11, chN11, a1, h1]
    exact hQ M hS hf hC
  | succ m ih =>
    intro l M hl hS hf hC
    have hIl := IV_dlG hI l (by omega)
    have a1 : mI M (chL b) 5 = nI L := hC.1.1.1.trans (IV_n hIl).2.2.1
    have h1 : (nI L ≤ nI l) = False := by rw [nI_leE (by omega) (by omega)]; exact eq_false (by omega)
    have n3 : mI M 15 2 = dlG σ l 5 10 := hC.2.2.1.2.2.1
    have e92 : mI M 92 0 = dlG σ l 0 4 := hC.1.2.1.2.1
    have hih := fun M h1 h2 h3 (h4 : RC b M (ddG (dlG σ l) l)) => ih (l + 1) M h1 h2 h3 h4
    generalize dlG σ l = τ at hih hIl hC a1 n3 e92
    clear ih
    rw [e_109_2]
    cases hal : hasB (τ 5 10) (nI l) with
    | false =>
      simp +decide only [e_109_3, e_109_4, e_109_7, e_109_10, e_109_13, e_109_14, e_109_17, e_109_18, e_109_21, e_109_58, e_109_61, ↓reduceIte, Int32.reduceAdd, Int32.reduceSub, an_0, an_1, an_2, an_3, an_4, an_5, tc_0, tc_1, tc_2, tc_3, tc_4, tc_5, tc_6, tc_7, tc_8, tc_9, tc_10, tc_11, tc_12, tc_13, tc_14, tc_15, tc_16, tc_17, tc_18, tc_19, tc_20, tc_21, tc_22, tc_23, tc_24, tc_25, tc_26, tc_27, tc_28, tc_29, tc_30, tc_31, tc_32, lcl_none, lcl_int, lcl_ref, lcl_null, lcl_long, okR_nil, okR_int, okR_ref, okR_null, okR_long, pushR_some, pushR_none, va_rf_some, va_rf_none, true_and, and_true, true_implies, false_implies, not_true_eq_false, not_false_eq_true, implies_true, bI_eq0, bI_eq1, bI_01, Classical.not_not, or_em, false_and, and_false, hS.1, hS.2.1, hS.2.2.1, hS.2.2.2.1, kT_0, kT_1, kT_2, kT_15, kT_16, kT_17, kT_18, kT_19, kT_80, kT_81, kT_82, kT_89, kT_90, kT_91, kT_92, kT_93, kT_94, kT_95, kT_96, kT_97, kT_98, kT_99, kT_100, kT_101, nT_2, nT_16, nT_17, nT_19, nT_81, nT_82, nT_90, nT_91, nT_94, nT_95, nT_97, nT_98, nT_100, nT_101, rT_0_0, rT_0_3, rT_0_4, rT_0_5, rT_0_6, rT_0_7, rT_0_8, rT_0_9, rT_0_10, rT_1_0, rT_15_0, rT_15_1, rT_18_0, rT_80_0, rT_80_1, rT_89_0, rT_89_1, rT_93_6, rT_93_7, rT_96_0, rT_96_1, rT_99_0, rT_99_1, chS1, chK, chR7, chK7, chN7, chR8, chK8, chN8, chR9, chK9, chN9, chR10, chK10, chN10, chR11, chK11, chN11, c_isAliveC (d := 2) (by decide), a1, h1, n3, hal, nI_1]
      exact hih M (by omega) hS hf (by rw [ddG_n hal]; exact hC)
    | true =>
      obtain ⟨v, hv⟩ : ∃ v, nxS (τ 0 4) = v := ⟨_, rfl⟩
      obtain ⟨w, hw⟩ : ∃ w, drS v = w := ⟨_, rfl⟩
      have hv0 : 0 ≤ v := by rw [← hv]; exact nxS_nn hIl.1.2.2.2.2.2
      have hdr : ∀ K, EvD 2 19 [.ref 92, .int 100] M K = K (some (.int w)) (wI M 92 0 v) := fun K => by rw [c_drawC (by decide) hS, e92, hv, hw]
      have hC1 := RC_sd (v := v) hC
      have hI1 := IV_sd (v := v) hIl hv0
      have hf1 : frC M0 (wI M 92 0 v) := hf.tr (frC_wI (by decide))
      have hS1 : Sh b (wI M 92 0 v) := hS
      simp +decide only [e_109_3, e_109_4, e_109_7, e_109_10, e_109_13, e_109_14, e_109_17, e_109_18, e_109_21, e_109_24, e_109_25, e_109_28, e_109_30, ↓reduceIte, Int32.reduceAdd, Int32.reduceSub, an_0, an_1, an_2, an_3, an_4, an_5, tc_0, tc_1, tc_2, tc_3, tc_4, tc_5, tc_6, tc_7, tc_8, tc_9, tc_10, tc_11, tc_12, tc_13, tc_14, tc_15, tc_16, tc_17, tc_18, tc_19, tc_20, tc_21, tc_22, tc_23, tc_24, tc_25, tc_26, tc_27, tc_28, tc_29, tc_30, tc_31, tc_32, lcl_none, lcl_int, lcl_ref, lcl_null, lcl_long, okR_nil, okR_int, okR_ref, okR_null, okR_long, pushR_some, pushR_none, va_rf_some, va_rf_none, true_and, and_true, true_implies, false_implies, not_true_eq_false, not_false_eq_true, implies_true, bI_eq0, bI_eq1, bI_01, Classical.not_not, or_em, false_and, and_false, hS.1, hS.2.1, hS.2.2.1, hS.2.2.2.1, kT_0, kT_1, kT_2, kT_15, kT_16, kT_17, kT_18, kT_19, kT_80, kT_81, kT_82, kT_89, kT_90, kT_91, kT_92, kT_93, kT_94, kT_95, kT_96, kT_97, kT_98, kT_99, kT_100, kT_101, nT_2, nT_16, nT_17, nT_19, nT_81, nT_82, nT_90, nT_91, nT_94, nT_95, nT_97, nT_98, nT_100, nT_101, rT_0_0, rT_0_3, rT_0_4, rT_0_5, rT_0_6, rT_0_7, rT_0_8, rT_0_9, rT_0_10, rT_1_0, rT_15_0, rT_15_1, rT_18_0, rT_80_0, rT_80_1, rT_89_0, rT_89_1, rT_93_6, rT_93_7, rT_96_0, rT_96_1, rT_99_0, rT_99_1, chS1, chK, chR7, chK7, chN7, chR8, chK8, chN8, chR9, chK9, chN9, chR10, chK10, chN10, chR11, chK11, chN11, c_isAliveC (d := 2) (by decide), a1, h1, n3, hal, hdr]
      generalize wI M 92 0 v = M1 at hC1 hf1 hS1 ⊢
      have hch : ∀ K, EvD 2 105 [.ref 0, .int (nI l)] M1 K = K (some (.int (chnS τ l (nI l)))) M1 := fun K => by
        rw [C_chanceNow (Nat.le_refl 2) hS1 hC1 hI1 (by omega)]
        unfold chnS
        rw [u2_ne (by decide), u2_ne (by decide)]
      have n3' : mI M1 15 2 = τ 5 10 := by rw [hC1.2.2.1.2.2.1, u2_ne (by decide)]
      by_cases hd : w < chnS τ l (nI l)
      · have hd' : (chnS τ l (nI l) ≤ w) = False := eq_false (Int32.not_le.mpr hd)
        simp +decide only [e_109_33, e_109_34, e_109_35, e_109_38, e_109_41, e_109_42, e_109_45, e_109_45r, e_109_46, e_109_49, e_109_50, e_109_51, e_109_52, e_109_53, e_109_54, e_109_55, e_109_58, e_109_61, ↓reduceIte, Int32.reduceAdd, Int32.reduceSub, an_0, an_1, an_2, an_3, an_4, an_5, tc_0, tc_1, tc_2, tc_3, tc_4, tc_5, tc_6, tc_7, tc_8, tc_9, tc_10, tc_11, tc_12, tc_13, tc_14, tc_15, tc_16, tc_17, tc_18, tc_19, tc_20, tc_21, tc_22, tc_23, tc_24, tc_25, tc_26, tc_27, tc_28, tc_29, tc_30, tc_31, tc_32, lcl_none, lcl_int, lcl_ref, lcl_null, lcl_long, okR_nil, okR_int, okR_ref, okR_null, okR_long, pushR_some, pushR_none, va_rf_some, va_rf_none, true_and, and_true, true_implies, false_implies, not_true_eq_false, not_false_eq_true, implies_true, bI_eq0, bI_eq1, bI_01, Classical.not_not, or_em, false_and, and_false, hS1.1, hS1.2.1, hS1.2.2.1, kT_0, kT_1, kT_2, kT_15, kT_16, kT_17, kT_18, kT_19, kT_80, kT_81, kT_82, kT_89, kT_90, kT_91, kT_92, kT_93, kT_94, kT_95, kT_96, kT_97, kT_98, kT_99, kT_100, kT_101, nT_2, nT_16, nT_17, nT_19, nT_81, nT_82, nT_90, nT_91, nT_94, nT_95, nT_97, nT_98, nT_100, nT_101, rT_0_0, rT_0_3, rT_0_4, rT_0_5, rT_0_6, rT_0_7, rT_0_8, rT_0_9, rT_0_10, rT_1_0, rT_15_0, rT_15_1, rT_18_0, rT_80_0, rT_80_1, rT_89_0, rT_89_1, rT_93_6, rT_93_7, rT_96_0, rT_96_1, rT_99_0, rT_99_1, hch, hd', n3', nI_1]
        have hC2 := RC_al (v := τ 5 10 &&& ((1 : Int32) <<< (nI l &&& 31) ^^^ (-1))) hC1
        rw [show u2 τ 0 4 v 5 = τ 5 from u2_ne (by decide)] at hC2
        refine hih _ (by omega) hS1 (hf1.tr (frC_wI (by decide))) ?_
        rw [ddG_t hal hv hw hd]
        exact hC2
      · have hd' : (chnS τ l (nI l) ≤ w) = True := eq_true (Int32.not_lt.mp hd)
        simp +decide only [e_109_33, e_109_34, e_109_35, e_109_38, e_109_41, e_109_42, e_109_45, e_109_45r, e_109_46, e_109_49, e_109_50, e_109_51, e_109_52, e_109_53, e_109_54, e_109_55, e_109_58, e_109_61, ↓reduceIte, Int32.reduceAdd, Int32.reduceSub, an_0, an_1, an_2, an_3, an_4, an_5, tc_0, tc_1, tc_2, tc_3, tc_4, tc_5, tc_6, tc_7, tc_8, tc_9, tc_10, tc_11, tc_12, tc_13, tc_14, tc_15, tc_16, tc_17, tc_18, tc_19, tc_20, tc_21, tc_22, tc_23, tc_24, tc_25, tc_26, tc_27, tc_28, tc_29, tc_30, tc_31, tc_32, lcl_none, lcl_int, lcl_ref, lcl_null, lcl_long, okR_nil, okR_int, okR_ref, okR_null, okR_long, pushR_some, pushR_none, va_rf_some, va_rf_none, true_and, and_true, true_implies, false_implies, not_true_eq_false, not_false_eq_true, implies_true, bI_eq0, bI_eq1, bI_01, Classical.not_not, or_em, false_and, and_false, hS1.1, hS1.2.1, hS1.2.2.1, kT_0, kT_1, kT_2, kT_15, kT_16, kT_17, kT_18, kT_19, kT_80, kT_81, kT_82, kT_89, kT_90, kT_91, kT_92, kT_93, kT_94, kT_95, kT_96, kT_97, kT_98, kT_99, kT_100, kT_101, nT_2, nT_16, nT_17, nT_19, nT_81, nT_82, nT_90, nT_91, nT_94, nT_95, nT_97, nT_98, nT_100, nT_101, rT_0_0, rT_0_3, rT_0_4, rT_0_5, rT_0_6, rT_0_7, rT_0_8, rT_0_9, rT_0_10, rT_1_0, rT_15_0, rT_15_1, rT_18_0, rT_80_0, rT_80_1, rT_89_0, rT_89_1, rT_93_6, rT_93_7, rT_96_0, rT_96_1, rT_99_0, rT_99_1, hch, hd', nI_1]
        refine hih M1 (by omega) hS1 hf1 ?_
        rw [ddG_f hal hv hw hd]
        exact hC1
theorem C_draw {d L P : Nat} {b : Bool} {σ : Sg} {M : ab_M} (hd : 3 ≤ d) (hI : IV L P σ) (hS : Sh b M) (hC : RC b M σ) : EvD d 109 [.ref 0] M (fun r M1 => r = none ∧ Sh b M1 ∧ frC M M1 ∧ RC b M1 (dlG σ L)) := by
  rw [b_109 hd]
  simp +decide only [e_109_0, e_109_1, ↓reduceIte, Int32.reduceAdd, Int32.reduceSub, an_0, an_1, an_2, an_3, an_4, an_5, tc_0, tc_1, tc_2, tc_3, tc_4, tc_5, tc_6, tc_7, tc_8, tc_9, tc_10, tc_11, tc_12, tc_13, tc_14, tc_15, tc_16, tc_17, tc_18, tc_19, tc_20, tc_21, tc_22, tc_23, tc_24, tc_25, tc_26, tc_27, tc_28, tc_29, tc_30, tc_31, tc_32, lcl_none, lcl_int, lcl_ref, lcl_null, lcl_long, okR_nil, okR_int, okR_ref, okR_null, okR_long, pushR_some, pushR_none, va_rf_some, va_rf_none, true_and, and_true, true_implies, false_implies, not_true_eq_false, not_false_eq_true, implies_true, bI_eq0, bI_eq1, bI_01, Classical.not_not, or_em, false_and, and_false]
  exact L_ddC hI (fun M1 hS1 hf1 hC1 => ⟨rfl, hS1, hf1, hC1⟩) L 0 M (by omega) hS (fun _ _ => rfl) hC
