/-! goBack -/
def gbS (σ : Sg) (i : Nat) : Sg := fun j k => if j = 5 then σ (10 + i) k else if j = 0 ∧ k = 4 then σ 9 i else if j = 0 ∧ k = 6 then 0 else σ j k
theorem gbS_ne {σ : Sg} {i j : Nat} (h0 : j ≠ 0) (h5 : j ≠ 5) : gbS σ i j = σ j := by
  funext k
  unfold gbS
  rw [if_neg h5, if_neg (fun e => h0 e.1), if_neg (fun e => h0 e.1)]
theorem gbS_0 {σ : Sg} {i k : Nat} (h : k ≠ 4) (h6 : k ≠ 6) : gbS σ i 0 k = σ 0 k := by
  unfold gbS
  rw [if_neg (by decide), if_neg (fun e => h e.2), if_neg (fun e => h6 e.2)]
theorem gbS_04 {σ : Sg} {i : Nat} : gbS σ i 0 4 = σ 9 i := by
  unfold gbS
  rw [if_neg (by decide), if_pos ⟨rfl, rfl⟩]
theorem gbS_06 {σ : Sg} {i : Nat} : gbS σ i 0 6 = 0 := by
  unfold gbS
  rw [if_neg (by decide), if_neg (by decide), if_pos ⟨rfl, rfl⟩]
theorem gbS_5 {σ : Sg} {i : Nat} : gbS σ i 5 = σ (10 + i) := by
  funext k
  unfold gbS
  rw [if_pos rfl]
theorem IV_gb {L P i : Nat} {σ : Sg} (h : IV L P σ) (hi : i < 2) (ht : σ 12 i = 1) : IV L P (gbS σ i) := by
  obtain ⟨⟨a1, a2, a3, a4, a5, a6⟩, b5, b6, b7, t, q, x, nw, p, im⟩ := h
  obtain ⟨k1, k2⟩ := (im i hi).2 ht
  refine ⟨⟨a1, a2, by rw [gbS_0 (by decide) (by decide)]; exact a3, by rw [gbS_0 (by decide) (by decide)]; exact a4, by rw [gbS_0 (by decide) (by decide)]; exact a5, by rw [gbS_04]; exact k1⟩, by rw [gbS_0 (by decide) (by decide)]; exact b5, ⟨0, by decide, gbS_06⟩, by rw [gbS_0 (by decide) (by decide), gbS_ne (j := 7) (by decide) (by decide)]; exact b7, by rw [gbS_ne (j := 1) (by decide) (by decide)]; exact t, by rw [gbS_ne (j := 2) (by decide) (by decide), gbS_ne (j := 3) (by decide) (by decide)]; exact q, by rw [gbS_ne (j := 4) (by decide) (by decide)]; exact x, by rw [gbS_5]; exact k2, fun k hk hkn => ?_, fun k hk => ?_⟩
  · rw [gbS_06, show (0 : Int32) = nI 0 from rfl, nI_ltE (by omega) (by omega)] at hkn
    exact absurd hkn (by omega)
  · rw [gbS_ne (j := 12) (by decide) (by decide), gbS_ne (j := 9) (by decide) (by decide), gbS_ne (j := 10 + k) (by omega) (by omega)]
    exact im k hk
theorem M_goBack1 {d i : Nat} {b : Bool} {σ : Sg} {M : ab_M} (hd : 2 ≤ d) (hS : Sh b M) (hM : RM M σ) (hi : i < 2) (ht : σ 12 i = 1) : EvD d 179 [.ref 102, .int (nI i)] M (fun r M' => r = some (.int 1) ∧ Sh b M' ∧ frM M M' ∧ RM M' (gbS σ i)) := by
  obtain ⟨m1, m2, m3, m4, m5, m6, m7⟩ := hM
  have hx : (0 ≤ nI i ∧ nI i ≤ 1) = True := by
    apply eq_true
    have h : ∀ i, i < 2 → (0 : Int32) ≤ nI i ∧ nI i ≤ 1 := by decide +kernel
    exact h i hi
  have ci : (nI i).toNatClampNeg = i := nI_clamp (by omega)
  have ii : inX (nI i) 2 = True := eq_true (inX_nI (by decide) hi)
  have e14 : 14 * nI i = nI (14 * i) := pk_mul 14 i
  obtain ⟨q1, q2, q3⟩ := m6 i hi
  rw [ht] at q3
  rw [b_179 hd]
  simp +decide only [e_179_0, e_179_1, e_179_2, e_179_3, e_179_6, e_179_9, e_179_11, e_179_12, e_179_13, e_179_16, e_179_17, e_179_18, e_179_21, e_179_23, e_179_24, e_179_25, e_179_28, e_179_30, e_179_31, e_179_32, e_179_33, e_179_36, e_179_37, ↓reduceIte, Int32.reduceAdd, Int32.reduceSub, an_0, an_1, an_2, an_3, an_4, an_5, tc_0, tc_1, tc_2, tc_3, tc_4, tc_5, tc_6, tc_7, tc_8, tc_9, tc_10, tc_11, tc_12, tc_13, tc_14, tc_15, tc_16, tc_17, tc_18, tc_19, tc_20, tc_21, tc_22, tc_23, tc_24, tc_25, tc_26, tc_27, tc_28, tc_29, tc_30, tc_31, tc_32, lcl_none, lcl_int, lcl_ref, lcl_null, lcl_long, okR_nil, okR_int, okR_ref, okR_null, okR_long, pushR_some, pushR_none, va_rf_some, va_rf_none, true_and, and_true, true_implies, false_implies, not_true_eq_false, not_false_eq_true, implies_true, bI_eq0, bI_eq1, bI_01, Classical.not_not, or_em, false_and, and_false, hS.1, hS.2.1, hS.2.2.1, hS.2.2.2.1, kT_102, kT_103, kT_104, kT_105, kT_106, kT_107, kT_108, kT_109, kT_110, kT_111, kT_112, kT_113, kT_114, kT_115, kT_116, kT_117, kT_118, kT_119, kT_120, nT_103, nT_104, nT_105, nT_106, nT_107, nT_108, nT_109, nT_110, nT_111, nT_112, nT_113, nT_114, nT_115, nT_116, nT_117, nT_118, nT_119, nT_120, rT_102_1, rT_102_12, rT_102_13, rT_102_14, rT_102_18, rT_102_19, rT_102_20, rT_102_21, rT_102_22, rT_102_23, rT_102_25, rT_102_26, rT_102_27, rT_102_30, rT_102_31, rT_102_32, rT_102_33, rT_102_34, c_in (d := 1) (by decide), hx, e14, ci, ii, q3]
  refine c_copyM (x := 113) (f := 14 * i) (y := 111) (t := 0) (nx := 28) (ny := 14) (Nat.le_refl 1) (by decide) (by rw [hS.1]; rfl) (by rw [hS.1]; rfl) (by rw [hS.2.1]; rfl) (by rw [hS.2.1]; rfl) (by omega) (by decide) (by decide) (by decide) (fun M2 hc => ?_)
  have hS2 := hc.sh hS
  obtain ⟨g1, g2, -⟩ := hc
  have h2 : mI M2 114 i = σ 9 i := by rw [g2 114 (by decide)]; exact q1
  simp +decide only [e_179_40, e_179_41, e_179_42, e_179_45, e_179_46, e_179_47, e_179_50, e_179_51, e_179_52, e_179_55, e_179_56, ↓reduceIte, Int32.reduceAdd, Int32.reduceSub, an_0, an_1, an_2, an_3, an_4, an_5, tc_0, tc_1, tc_2, tc_3, tc_4, tc_5, tc_6, tc_7, tc_8, tc_9, tc_10, tc_11, tc_12, tc_13, tc_14, tc_15, tc_16, tc_17, tc_18, tc_19, tc_20, tc_21, tc_22, tc_23, tc_24, tc_25, tc_26, tc_27, tc_28, tc_29, tc_30, tc_31, tc_32, lcl_none, lcl_int, lcl_ref, lcl_null, lcl_long, okR_nil, okR_int, okR_ref, okR_null, okR_long, pushR_some, pushR_none, va_rf_some, va_rf_none, true_and, and_true, true_implies, false_implies, not_true_eq_false, not_false_eq_true, implies_true, bI_eq0, bI_eq1, bI_01, Classical.not_not, or_em, false_and, and_false, mI_wI, mI_wJ, mI_wR, mJ_wI, mJ_wJ, mJ_wR, mR_wI, mR_wJ, mR_wR, mK_wI, mK_wJ, mK_wR, mN_wI, mN_wJ, mN_wR, mZ_wI, mZ_wJ, mZ_wR, hS2.1, hS2.2.1, hS2.2.2.1, kT_102, kT_103, kT_104, kT_105, kT_106, kT_107, kT_108, kT_109, kT_110, kT_111, kT_112, kT_113, kT_114, kT_115, kT_116, kT_117, kT_118, kT_119, kT_120, nT_103, nT_104, nT_105, nT_106, nT_107, nT_108, nT_109, nT_110, nT_111, nT_112, nT_113, nT_114, nT_115, nT_116, nT_117, nT_118, nT_119, nT_120, rT_102_1, rT_102_12, rT_102_13, rT_102_14, rT_102_18, rT_102_19, rT_102_20, rT_102_21, rT_102_22, rT_102_23, rT_102_25, rT_102_26, rT_102_27, rT_102_30, rT_102_31, rT_102_32, rT_102_33, rT_102_34, ci, ii, h2]
  have hm : ∀ a, a ≠ 102 → a ≠ 111 → mI (wI (wI M2 102 28 (σ 9 i)) 102 24 0) a = mI M a := fun a h1 h2 => by rw [mI_wI_ne h1, mI_wI_ne h1, g2 a h2]
  have h02 : ∀ k, k ≠ 24 → k ≠ 28 → mI (wI (wI M2 102 28 (σ 9 i)) 102 24 0) 102 k = mI M 102 k := fun k hk hk2 => by rw [mI_wI, if_neg (fun z => hk z.2), mI_wI, if_neg (fun z => hk2 z.2), g2 102 (by decide)]
  refine ⟨hS2, fun a ha => hm a (by omega) (by omega), ?_, m2.kp (fun a h1 h2 => hm a (by omega) (by omega)) (gbS_0 (by decide) (by decide)) (gbS_0 (by decide) (by decide)) (gbS_ne (by decide) (by decide)) (gbS_ne (by decide) (by decide)) (gbS_ne (by decide) (by decide)), fun k hk => ?_, m4.kp (hm _ (by decide) (by decide)) (gbS_ne (by decide) (by decide)), m5.kp (hm _ (by decide) (by decide)) (gbS_ne (by decide) (by decide)) (gbS_ne (by decide) (by decide)), m6.kp (fun a h1 h2 => hm a (by omega) (by omega)) (gbS_ne (by decide) (by decide)) (gbS_ne (by decide) (by decide)) (gbS_ne (by decide) (by decide)) (gbS_ne (by decide) (by decide)), fun k hk hkn => ?_⟩
  · have h0 := m1
    have e28 : mI (wI (wI M2 102 28 (σ 9 i)) 102 24 0) 102 28 = σ 9 i := by rw [mI_wI, if_neg (by decide), mI_wI, if_pos ⟨rfl, rfl⟩]
    have e24 : mI (wI (wI M2 102 28 (σ 9 i)) 102 24 0) 102 24 = 0 := by rw [mI_wI, if_pos ⟨rfl, rfl⟩]
    unfold RM0 at h0 ⊢
    rw [h02 16 (by decide) (by decide), h02 17 (by decide) (by decide), h02 15 (by decide) (by decide), h02 7 (by decide) (by decide), e28, e24, h02 0 (by decide) (by decide), h02 29 (by decide) (by decide), hm 107 (by decide) (by decide), gbS_06, gbS_04, gbS_0 (by decide) (by decide), gbS_0 (by decide) (by decide), gbS_0 (by decide) (by decide), gbS_0 (by decide) (by decide), gbS_0 (by decide) (by decide), gbS_0 (by decide) (by decide), gbS_ne (by decide) (by decide)]
    exact ⟨h0.1, ⟨h0.2.1.1, rfl, h0.2.1.2.2.1, rfl, h0.2.1.2.2.2.2⟩, h0.2.2⟩
  · rw [mI_wI_ne (by decide), mI_wI_ne (by decide), gbS_5, g1, if_pos (by omega), show k - 0 = k by omega]
    exact q2 k hk
  · rw [gbS_06, show (0 : Int32) = nI 0 from rfl, nI_ltE (by omega) (by omega)] at hkn
    exact absurd hkn (by omega)
