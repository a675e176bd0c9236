/-! calls that change the present -/
def upS (S : Nat → Int32) (k : Nat) (v : Int32) : Nat → Int32 := fun j => if j = k then v else S j
theorem upS_at {S : Nat → Int32} {k : Nat} {v : Int32} : upS S k v k = v := if_pos rfl
theorem upS_ne {S : Nat → Int32} {k j : Nat} {v : Int32} (h : j ≠ k) : upS S k v j = S j := if_neg h
def uS (σ : Sg) (S : Nat → Int32) : Sg := fun j => if j = 5 then S else σ j
theorem uS_ne {σ : Sg} {S : Nat → Int32} {j : Nat} (h : j ≠ 5) : uS σ S j = σ j := if_neg h
theorem uS_5 {σ : Sg} {S : Nat → Int32} : uS σ S 5 = S := if_pos rfl
theorem RC_now {b : Bool} {M M1 : ab_M} {σ : Sg} {S : Nat → Int32} (h : RC b M σ) (hm : ∀ a, a < 15 ∨ 17 < a → mI M1 a = mI M a) (hN : SN M1 15 S) : RC b M1 (uS σ S) := by
  obtain ⟨c1, c2, c3, c4, c5, c6, c7⟩ := h
  have hb := chL_lt b
  exact ⟨c1.kp (fun a ha => hm a (by omega)) (uS_ne (by decide)) (uS_ne (by decide)), c2.kp (fun a g1 g2 => hm a (by omega)) (by rw [uS_ne (by decide)]) (by rw [uS_ne (by decide)]) (uS_ne (by decide)) (uS_ne (by decide)) (uS_ne (by decide)), by rw [uS_5]; exact hN, c4.kp (hm _ (by omega)) (uS_ne (by decide)), c5.kp (hm _ (by omega)) (hm _ (by omega)) (uS_ne (by decide)) (uS_ne (by decide)), c6.kp (fun a g1 g2 => hm a (by omega)) (uS_ne (by decide)) (uS_ne (by decide)) (uS_ne (by decide)) (uS_ne (by decide)), c7.kp (congrFun (hm _ (by omega)) 1) (fun a g1 g2 => hm a (by omega)) (by rw [uS_ne (by decide)]) (fun i _ => uS_ne (by omega))⟩
theorem RM_now {M M1 : ab_M} {σ : Sg} {S : Nat → Int32} (h : RM M σ) (hm : ∀ a, a ≠ 111 → mI M1 a = mI M a) (hN : ∀ k, k < 14 → mI M1 111 k = S k) : RM M1 (uS σ S) := by
  obtain ⟨c1, c2, c3, c4, c5, c6, c7⟩ := h
  exact ⟨c1.kp (hm _ (by decide)) (hm _ (by decide)) (uS_ne (by decide)) (uS_ne (by decide)), c2.kp (fun a g1 g2 => hm a (by omega)) (by rw [uS_ne (by decide)]) (by rw [uS_ne (by decide)]) (uS_ne (by decide)) (uS_ne (by decide)) (uS_ne (by decide)), fun k hk => by rw [uS_5]; exact hN k hk, c4.kp (hm _ (by decide)) (uS_ne (by decide)), c5.kp (hm _ (by decide)) (uS_ne (by decide)) (uS_ne (by decide)), c6.kp (fun a g1 g2 => hm a (by omega)) (uS_ne (by decide)) (uS_ne (by decide)) (uS_ne (by decide)) (uS_ne (by decide)), c7.kp (hm _ (by decide)) (by rw [uS_ne (by decide)]) (fun i _ => uS_ne (by omega))⟩
theorem IV_now {L P n : Nat} {σ : Sg} {S : Nat → Int32} (h : IV L P σ) (hn : σ 0 6 = nI n) (hn2 : n ≤ 20) (hS : SI L P S) : IV L P (uS (pu σ n) S) := by
  obtain ⟨⟨a1, a2, a3, a4, a5, a6⟩, b5, b6, b7, t, q, x, nw, p, im⟩ := h
  have e : ∀ j, j ≠ 0 → j ≠ 5 → (j < 20 ∨ 40 ≤ j) → uS (pu σ n) S j = σ j := fun j h1 h2 h3 => by rw [uS_ne h2, pu_ne h1 h3]
  have e0 : ∀ k, k ≠ 6 → uS (pu σ n) S 0 k = σ 0 k := fun k hk => by rw [uS_ne (by decide), pu_0 hk]
  refine ⟨⟨a1, a2, by rw [e0 _ (by decide)]; exact a3, by rw [e0 _ (by decide)]; exact a4, by rw [e0 _ (by decide)]; exact a5, by rw [e0 _ (by decide)]; exact a6⟩, by rw [e0 _ (by decide)]; exact b5, ?_, by rw [e0 _ (by decide), e 7 (by decide) (by decide) (by decide)]; exact b7, by rw [e 1 (by decide) (by decide) (by decide)]; exact t, by rw [e 2 (by decide) (by decide) (by decide), e 3 (by decide) (by decide) (by decide)]; exact q, by rw [e 4 (by decide) (by decide) (by decide)]; exact x, by rw [uS_5]; exact hS, ?_, ?_⟩
  · rw [uS_ne (by decide), pu_06]
    by_cases h20 : n = 20
    · rw [if_pos h20]
      exact ⟨20, by decide, rfl⟩
    · rw [if_neg h20]
      exact ⟨n + 1, by omega, rfl⟩
  · intro i hi hin
    rw [uS_ne (by decide), pu_06] at hin
    rw [uS_ne (by omega), pu_p hi]
    by_cases h20 : n = 20
    · rw [if_pos h20]
      by_cases h19 : i = 19
      · rw [if_pos h19]
        exact nw
      · rw [if_neg h19]
        exact p (i + 1) (by omega) (by rw [hn, nI_ltE (by omega) (by omega)]; omega)
    · rw [if_neg h20]
      rw [if_neg h20, nI_ltE (by omega) (by omega)] at hin
      by_cases h19 : i = n
      · rw [if_pos h19]
        exact nw
      · rw [if_neg h19]
        exact p i hi (by rw [hn, nI_ltE (by omega) (by omega)]; omega)
  · intro i hi
    rw [e 12 (by decide) (by decide) (by decide), e 9 (by decide) (by decide) (by decide), e (10 + i) (by omega) (by omega) (by omega)]
    exact im i hi
theorem NT {x m : Nat} {as : List Int32} {M : ab_M} {b : Bool} {σ : Sg} {L P n : Nat} (hS : Sh b M) (hMo : RM M σ) (hI : IV L P σ) (hn : σ 0 6 = nI n) (hn2 : n ≤ 20) (S : Nat → Int32) (hSI : SI L P S) (v : Int32) (h1 : EvD 20 x (.ref 0 :: as.map .int) M (fun r M1 => r = some (.int v) ∧ Sh b M1 ∧ frC M M1 ∧ RC b M1 (uS (pu σ n) S))) (h2 : ∀ M1, Sh b M1 → RM M1 σ → EvD 20 m (.ref 102 :: as.map .int) M1 (fun r M2 => r = some (.int v) ∧ Sh b M2 ∧ frM M1 M2 ∧ RM M2 (uS (pu σ n) S))) : lwStep Rel x m as M := by
  refine EvD_mono h1 (fun r M1 hr => ?_)
  obtain ⟨rfl, hS1, hf, hC1⟩ := hr
  refine ⟨v, b, rfl, hS1, EvD_mono (h2 M1 hS1 (hMo.kp hf)) (fun r M2 hr => ?_)⟩
  obtain ⟨rfl, hS2, hf2, hM2⟩ := hr
  exact ⟨rfl, b, uS (pu σ n) S, L, P, hS2, hC1.kp hf2, hM2, IV_now hI hn hn2 hSI⟩
theorem clr_nI : ∀ a, a < 32 → ∀ j, j < 5 → nI a &&& ((1 : Int32) <<< (nI j &&& 31) ^^^ (-1)) = nI (a - a / 2 ^ j % 2 * 2 ^ j) := by decide +kernel
theorem SI_alive {L P a : Nat} {S : Nat → Int32} (h : SI L P S) (ha : a < 2 ^ L) : SI L P (upS S 10 (nI a)) := by
  obtain ⟨h1, h2, h3, h4⟩ := h
  refine ⟨fun k hk hp => by rw [upS_ne (by omega)]; exact h1 k hk hp, fun k hk hp => by rw [upS_ne (by omega)]; exact h2 k hk hp, fun k hk => by rw [upS_ne (by omega)]; exact h3 k hk, a, ha, upS_at⟩
def diS (S : Nat → Int32) (l : Int32) : Nat → Int32 := upS S 10 (S 10 &&& ((1 : Int32) <<< (l &&& 31) ^^^ (-1)))
theorem SI_di {L P j : Nat} {S : Nat → Int32} (hL : L ≤ 5) (h : SI L P S) (hj : j < 5) : SI L P (diS S (nI j)) := by
  obtain ⟨a, ha, ea⟩ := h.2.2.2
  have h32 : a < 32 := Nat.lt_of_lt_of_le ha (Nat.pow_le_pow_right (by decide) hL)
  unfold diS
  rw [ea, clr_nI a h32 j hj]
  exact SI_alive h (by omega)
theorem op_died (l : Int32) (M : ab_M) (hM : Rel M) : lwStep Rel 80 148 [l] M := by
  have hM0 := hM
  obtain ⟨b, σ, L, P, hS, hC, hMo, hI⟩ := hM
  obtain ⟨hL, hP, iL, iP⟩ := IV_n hI
  obtain ⟨n, hn2, hn⟩ := hI.2.2.1
  have hC0 := hC
  have hMo0 := hMo
  obtain ⟨⟨⟨a1, a2, a3⟩, -⟩, -, ⟨n1, n2, n3, n4, n5, n6⟩, -⟩ := hC
  by_cases hl : 0 ≤ l ∧ l < nI L
  · have hx : (0 ≤ l ∧ l < σ 0 0) = True := by rw [iL]; exact eq_true hl
    have hxm : ∀ M1, RM M1 σ → (0 ≤ l ∧ l ≤ mI M1 102 16 - 1) = True := fun M1 h => by rw [h.1.1.1, iL, ix_pred hL]; exact eq_true hl
    cases hal : hasB (σ 5 10) l with
    | true =>
      obtain ⟨j, hj, rfl⟩ := of_ix (by omega) hl
      refine NT hS hMo hI hn hn2 (diS (σ 5) (nI j)) (SI_di hL hI.2.2.2.2.2.2.2.1 (by omega)) (σ 5 10 &&& ((1 : Int32) <<< (nI j &&& 31) ^^^ (-1))) ?_ (fun M1 hS1 hM1 => ?_)
      · show EvD 20 80 [.ref 0, .int (nI j)] M _
        rw [b_80 (by decide)]
        simp +decide only [e_80_0, e_80_1, e_80_4, e_80_5, e_80_8, e_80_11, e_80_13, e_80_14, e_80_15, e_80_18, e_80_19, e_80_22, e_80_25, e_80_27, e_80_28, e_80_29, e_80_32, e_80_33, e_80_36, e_80_39, e_80_40, e_80_43, e_80_43r, e_80_44, e_80_47, e_80_48, e_80_49, e_80_50, e_80_51, e_80_52, e_80_53, e_80_56, e_80_57, e_80_60, e_80_63, ↓reduceIte, Int32.reduceAdd, Int32.reduceSub, an_0, an_1, an_2, an_3, an_4, an_5, tc_0, tc_1, tc_2, tc_3, tc_4, tc_5, tc_6, tc_7, tc_8, tc_9, tc_10, tc_11, tc_12, tc_13, tc_14, tc_15, tc_16, tc_17, tc_18, tc_19, tc_20, tc_21, tc_22, tc_23, tc_24, tc_25, tc_26, tc_27, tc_28, tc_29, tc_30, tc_31, tc_32, lcl_none, lcl_int, lcl_ref, lcl_null, lcl_long, okR_nil, okR_int, okR_ref, okR_null, okR_long, pushR_some, pushR_none, va_rf_some, va_rf_none, true_and, and_true, true_implies, false_implies, not_true_eq_false, not_false_eq_true, implies_true, bI_eq0, bI_eq1, bI_01, Classical.not_not, or_em, false_and, and_false, hS.1, hS.2.1, hS.2.2.1, hS.2.2.2.1, kT_0, kT_1, kT_2, kT_15, kT_16, kT_17, kT_18, kT_19, kT_80, kT_81, kT_82, kT_89, kT_90, kT_91, kT_92, kT_93, kT_94, kT_95, kT_96, kT_97, kT_98, kT_99, kT_100, kT_101, nT_2, nT_16, nT_17, nT_19, nT_81, nT_82, nT_90, nT_91, nT_94, nT_95, nT_97, nT_98, nT_100, nT_101, rT_0_0, rT_0_3, rT_0_4, rT_0_5, rT_0_6, rT_0_7, rT_0_8, rT_0_9, rT_0_10, rT_1_0, rT_15_0, rT_15_1, rT_18_0, rT_80_0, rT_80_1, rT_89_0, rT_89_1, rT_93_6, rT_93_7, rT_96_0, rT_96_1, rT_99_0, rT_99_1, chS1, chK, chR7, chK7, chN7, chR8, chK8, chN8, chR9, chK9, chN9, chR10, chK10, chN10, chR11, chK11, chN11, c_hasLife, c_isAliveC, a1, hx, n3, hal]
        refine EvD_mono (C_remember (Nat.le_refl 3) hS hC0 hn hn2) ?_
        rintro r M' ⟨rfl, hS', hC', hf⟩
        have n3' : mI M' 15 2 = σ 5 10 := by rw [hC'.2.2.1.2.2.1, pu_ne (by decide) (by decide)]
        simp +decide only [e_80_0, e_80_1, e_80_4, e_80_5, e_80_8, e_80_11, e_80_13, e_80_14, e_80_15, e_80_18, e_80_19, e_80_22, e_80_25, e_80_27, e_80_28, e_80_29, e_80_32, e_80_33, e_80_36, e_80_39, e_80_40, e_80_43, e_80_43r, e_80_44, e_80_47, e_80_48, e_80_49, e_80_50, e_80_51, e_80_52, e_80_53, e_80_56, e_80_57, e_80_60, e_80_63, ↓reduceIte, Int32.reduceAdd, Int32.reduceSub, an_0, an_1, an_2, an_3, an_4, an_5, tc_0, tc_1, tc_2, tc_3, tc_4, tc_5, tc_6, tc_7, tc_8, tc_9, tc_10, tc_11, tc_12, tc_13, tc_14, tc_15, tc_16, tc_17, tc_18, tc_19, tc_20, tc_21, tc_22, tc_23, tc_24, tc_25, tc_26, tc_27, tc_28, tc_29, tc_30, tc_31, tc_32, lcl_none, lcl_int, lcl_ref, lcl_null, lcl_long, okR_nil, okR_int, okR_ref, okR_null, okR_long, pushR_some, pushR_none, va_rf_some, va_rf_none, true_and, and_true, true_implies, false_implies, not_true_eq_false, not_false_eq_true, implies_true, bI_eq0, bI_eq1, bI_01, Classical.not_not, or_em, false_and, and_false, hS'.1, hS'.2.1, hS'.2.2.1, kT_0, kT_1, kT_2, kT_15, kT_16, kT_17, kT_18, kT_19, kT_80, kT_81, kT_82, kT_89, kT_90, kT_91, kT_92, kT_93, kT_94, kT_95, kT_96, kT_97, kT_98, kT_99, kT_100, kT_101, nT_2, nT_16, nT_17, nT_19, nT_81, nT_82, nT_90, nT_91, nT_94, nT_95, nT_97, nT_98, nT_100, nT_101, rT_0_0, rT_0_3, rT_0_4, rT_0_5, rT_0_6, rT_0_7, rT_0_8, rT_0_9, rT_0_10, rT_1_0, rT_15_0, rT_15_1, rT_18_0, rT_80_0, rT_80_1, rT_89_0, rT_89_1, rT_93_6, rT_93_7, rT_96_0, rT_96_1, rT_99_0, rT_99_1, mI_wI, mI_wJ, mI_wR, mJ_wI, mJ_wJ, mJ_wR, mR_wI, mR_wJ, mR_wR, mK_wI, mK_wJ, mK_wR, mN_wI, mN_wJ, mN_wR, mZ_wI, mZ_wJ, mZ_wR, n3']
        refine ⟨hS', hf.tr (frC_wI (by decide)), RC_now hC' (fun a ha => mI_wI_ne (by omega)) ?_⟩
        obtain ⟨q1, q2, q3, q4, q5, q6⟩ := hC'.2.2.1
        rw [pu_ne (by decide) (by decide)] at q1 q2 q3 q4 q5 q6
        refine ⟨fun k hk => ?_, fun k hk => ?_, ?_, ?_, ?_, ?_⟩
        · rw [mI_wI_ne (by decide), q1 k hk, diS, upS_ne (by omega)]
        · rw [mI_wI_ne (by decide), q2 k hk, diS, upS_ne (by omega)]
        · rw [mI_wI, if_pos ⟨rfl, rfl⟩, diS, upS_at]
        · rw [mI_wI, if_neg (by decide), q4, diS, upS_ne (by decide)]
        · rw [mI_wI, if_neg (by decide), q5, diS, upS_ne (by decide)]
        · rw [mI_wI, if_neg (by decide), q6, diS, upS_ne (by decide)]
      · show EvD 20 148 [.ref 102, .int (nI j)] M1 _
        rw [b_148 (by decide)]
        have p10 := hM1.2.2.1 10 (by decide)
        simp +decide only [e_148_0, e_148_1, e_148_2, e_148_5, e_148_8, e_148_10, e_148_11, e_148_12, e_148_13, e_148_16, e_148_19, e_148_21, e_148_22, e_148_23, e_148_26, e_148_27, e_148_30, e_148_32, e_148_33, e_148_36, e_148_38, e_148_39, e_148_40, e_148_41, e_148_42, e_148_43, e_148_44, e_148_45, e_148_46, e_148_47, e_148_50, e_148_52, e_148_53, ↓reduceIte, Int32.reduceAdd, Int32.reduceSub, an_0, an_1, an_2, an_3, an_4, an_5, tc_0, tc_1, tc_2, tc_3, tc_4, tc_5, tc_6, tc_7, tc_8, tc_9, tc_10, tc_11, tc_12, tc_13, tc_14, tc_15, tc_16, tc_17, tc_18, tc_19, tc_20, tc_21, tc_22, tc_23, tc_24, tc_25, tc_26, tc_27, tc_28, tc_29, tc_30, tc_31, tc_32, lcl_none, lcl_int, lcl_ref, lcl_null, lcl_long, okR_nil, okR_int, okR_ref, okR_null, okR_long, pushR_some, pushR_none, va_rf_some, va_rf_none, true_and, and_true, true_implies, false_implies, not_true_eq_false, not_false_eq_true, implies_true, bI_eq0, bI_eq1, bI_01, Classical.not_not, or_em, false_and, and_false, hS1.1, hS1.2.1, hS1.2.2.1, kT_102, kT_103, kT_104, kT_105, kT_106, kT_107, kT_108, kT_109, kT_110, kT_111, kT_112, kT_113, kT_114, kT_115, kT_116, kT_117, kT_118, kT_119, kT_120, nT_103, nT_104, nT_105, nT_106, nT_107, nT_108, nT_109, nT_110, nT_111, nT_112, nT_113, nT_114, nT_115, nT_116, nT_117, nT_118, nT_119, nT_120, rT_102_1, rT_102_12, rT_102_13, rT_102_14, rT_102_18, rT_102_19, rT_102_20, rT_102_21, rT_102_22, rT_102_23, rT_102_25, rT_102_26, rT_102_27, rT_102_30, rT_102_31, rT_102_32, rT_102_33, rT_102_34, c_isLifeM (d := 2) (Nat.le_refl 2) hS1, c_isAliveM (d := 2) (Nat.le_refl 2) hS1, hxm M1 hM1, p10, hal]
        refine EvD_mono (M_note (Nat.le_refl 2) hS1 hM1 hn hn2) ?_
        rintro r M' ⟨rfl, hS', hM', hf⟩
        have p10' : mI M' 111 10 = σ 5 10 := by rw [hM'.2.2.1 10 (by decide), pu_ne (by decide) (by decide)]
        simp +decide only [e_148_0, e_148_1, e_148_2, e_148_5, e_148_8, e_148_10, e_148_11, e_148_12, e_148_13, e_148_16, e_148_19, e_148_21, e_148_22, e_148_23, e_148_26, e_148_27, e_148_30, e_148_32, e_148_33, e_148_36, e_148_38, e_148_39, e_148_40, e_148_41, e_148_42, e_148_43, e_148_44, e_148_45, e_148_46, e_148_47, e_148_50, e_148_52, e_148_53, ↓reduceIte, Int32.reduceAdd, Int32.reduceSub, an_0, an_1, an_2, an_3, an_4, an_5, tc_0, tc_1, tc_2, tc_3, tc_4, tc_5, tc_6, tc_7, tc_8, tc_9, tc_10, tc_11, tc_12, tc_13, tc_14, tc_15, tc_16, tc_17, tc_18, tc_19, tc_20, tc_21, tc_22, tc_23, tc_24, tc_25, tc_26, tc_27, tc_28, tc_29, tc_30, tc_31, tc_32, lcl_none, lcl_int, lcl_ref, lcl_null, lcl_long, okR_nil, okR_int, okR_ref, okR_null, okR_long, pushR_some, pushR_none, va_rf_some, va_rf_none, true_and, and_true, true_implies, false_implies, not_true_eq_false, not_false_eq_true, implies_true, bI_eq0, bI_eq1, bI_01, Classical.not_not, or_em, false_and, and_false, hS'.1, hS'.2.1, hS'.2.2.1, kT_102, kT_103, kT_104, kT_105, kT_106, kT_107, kT_108, kT_109, kT_110, kT_111, kT_112, kT_113, kT_114, kT_115, kT_116, kT_117, kT_118, kT_119, kT_120, nT_103, nT_104, nT_105, nT_106, nT_107, nT_108, nT_109, nT_110, nT_111, nT_112, nT_113, nT_114, nT_115, nT_116, nT_117, nT_118, nT_119, nT_120, rT_102_1, rT_102_12, rT_102_13, rT_102_14, rT_102_18, rT_102_19, rT_102_20, rT_102_21, rT_102_22, rT_102_23, rT_102_25, rT_102_26, rT_102_27, rT_102_30, rT_102_31, rT_102_32, rT_102_33, rT_102_34, mI_wI, mI_wJ, mI_wR, mJ_wI, mJ_wJ, mJ_wR, mR_wI, mR_wJ, mR_wR, mK_wI, mK_wJ, mK_wR, mN_wI, mN_wJ, mN_wR, mZ_wI, mZ_wJ, mZ_wR, p10']
        refine ⟨hS', hf.tr (frM_wI (by decide)), RM_now hM' (fun a ha => mI_wI_ne ha) (fun k hk => ?_)⟩
        by_cases h10 : k = 10
        · rw [h10, mI_wI, if_pos ⟨rfl, rfl⟩, diS, upS_at]
        · rw [mI_wI, if_neg (fun z => h10 z.2), hM'.2.2.1 k hk, pu_ne (by decide) (by decide), diS, upS_ne h10]
    | false =>
      refine RO hS hC0 hMo hI (-2000000003) ?_ (fun M1 hS1 hM1 => ?_)
      · show EvD 20 80 [.ref 0, .int l] M _
        rw [b_80 (by decide)]
        simp +decide only [e_80_0, e_80_1, e_80_4, e_80_5, e_80_8, e_80_11, e_80_13, e_80_14, e_80_15, e_80_18, e_80_19, e_80_22, e_80_25, e_80_27, e_80_28, e_80_29, e_80_32, e_80_33, e_80_36, e_80_39, e_80_40, e_80_43, e_80_43r, e_80_44, e_80_47, e_80_48, e_80_49, e_80_50, e_80_51, e_80_52, e_80_53, e_80_56, e_80_57, e_80_60, e_80_63, ↓reduceIte, Int32.reduceAdd, Int32.reduceSub, an_0, an_1, an_2, an_3, an_4, an_5, tc_0, tc_1, tc_2, tc_3, tc_4, tc_5, tc_6, tc_7, tc_8, tc_9, tc_10, tc_11, tc_12, tc_13, tc_14, tc_15, tc_16, tc_17, tc_18, tc_19, tc_20, tc_21, tc_22, tc_23, tc_24, tc_25, tc_26, tc_27, tc_28, tc_29, tc_30, tc_31, tc_32, lcl_none, lcl_int, lcl_ref, lcl_null, lcl_long, okR_nil, okR_int, okR_ref, okR_null, okR_long, pushR_some, pushR_none, va_rf_some, va_rf_none, true_and, and_true, true_implies, false_implies, not_true_eq_false, not_false_eq_true, implies_true, bI_eq0, bI_eq1, bI_01, Classical.not_not, or_em, false_and, and_false, hS.1, hS.2.1, hS.2.2.1, hS.2.2.2.1, kT_0, kT_1, kT_2, kT_15, kT_16, kT_17, kT_18, kT_19, kT_80, kT_81, kT_82, kT_89, kT_90, kT_91, kT_92, kT_93, kT_94, kT_95, kT_96, kT_97, kT_98, kT_99, kT_100, kT_101, nT_2, nT_16, nT_17, nT_19, nT_81, nT_82, nT_90, nT_91, nT_94, nT_95, nT_97, nT_98, nT_100, nT_101, rT_0_0, rT_0_3, rT_0_4, rT_0_5, rT_0_6, rT_0_7, rT_0_8, rT_0_9, rT_0_10, rT_1_0, rT_15_0, rT_15_1, rT_18_0, rT_80_0, rT_80_1, rT_89_0, rT_89_1, rT_93_6, rT_93_7, rT_96_0, rT_96_1, rT_99_0, rT_99_1, chS1, chK, chR7, chK7, chN7, chR8, chK8, chN8, chR9, chK9, chN9, chR10, chK10, chN10, chR11, chK11, chN11, c_hasLife, c_isAliveC, a1, hx, n3, hal]
        exact hS
      · show EvD 20 148 [.ref 102, .int l] M1 _
        rw [b_148 (by decide)]
        have p10 := hM1.2.2.1 10 (by decide)
        simp +decide only [e_148_0, e_148_1, e_148_2, e_148_5, e_148_8, e_148_10, e_148_11, e_148_12, e_148_13, e_148_16, e_148_19, e_148_21, e_148_22, e_148_23, e_148_26, e_148_27, e_148_30, e_148_32, e_148_33, e_148_36, e_148_38, e_148_39, e_148_40, e_148_41, e_148_42, e_148_43, e_148_44, e_148_45, e_148_46, e_148_47, e_148_50, e_148_52, e_148_53, ↓reduceIte, Int32.reduceAdd, Int32.reduceSub, an_0, an_1, an_2, an_3, an_4, an_5, tc_0, tc_1, tc_2, tc_3, tc_4, tc_5, tc_6, tc_7, tc_8, tc_9, tc_10, tc_11, tc_12, tc_13, tc_14, tc_15, tc_16, tc_17, tc_18, tc_19, tc_20, tc_21, tc_22, tc_23, tc_24, tc_25, tc_26, tc_27, tc_28, tc_29, tc_30, tc_31, tc_32, lcl_none, lcl_int, lcl_ref, lcl_null, lcl_long, okR_nil, okR_int, okR_ref, okR_null, okR_long, pushR_some, pushR_none, va_rf_some, va_rf_none, true_and, and_true, true_implies, false_implies, not_true_eq_false, not_false_eq_true, implies_true, bI_eq0, bI_eq1, bI_01, Classical.not_not, or_em, false_and, and_false, hS1.1, hS1.2.1, hS1.2.2.1, kT_102, kT_103, kT_104, kT_105, kT_106, kT_107, kT_108, kT_109, kT_110, kT_111, kT_112, kT_113, kT_114, kT_115, kT_116, kT_117, kT_118, kT_119, kT_120, nT_103, nT_104, nT_105, nT_106, nT_107, nT_108, nT_109, nT_110, nT_111, nT_112, nT_113, nT_114, nT_115, nT_116, nT_117, nT_118, nT_119, nT_120, rT_102_1, rT_102_12, rT_102_13, rT_102_14, rT_102_18, rT_102_19, rT_102_20, rT_102_21, rT_102_22, rT_102_23, rT_102_25, rT_102_26, rT_102_27, rT_102_30, rT_102_31, rT_102_32, rT_102_33, rT_102_34, c_isLifeM (d := 2) (Nat.le_refl 2) hS1, c_isAliveM (d := 2) (Nat.le_refl 2) hS1, hxm M1 hM1, p10, hal]
        exact hS1
  · have hx : (0 ≤ l ∧ l < σ 0 0) = False := by rw [iL]; exact eq_false hl
    have hxm : ∀ M1, RM M1 σ → (0 ≤ l ∧ l ≤ mI M1 102 16 - 1) = False := fun M1 h => by rw [h.1.1.1, iL, ix_pred hL]; exact eq_false hl
    refine RO hS hC0 hMo hI (-2000000001) ?_ (fun M1 hS1 hM1 => ?_)
    · show EvD 20 80 [.ref 0, .int l] M _
      rw [b_80 (by decide)]
      simp +decide only [e_80_0, e_80_1, e_80_4, e_80_5, e_80_8, e_80_11, e_80_13, e_80_14, e_80_15, e_80_18, e_80_19, e_80_22, e_80_25, e_80_27, e_80_28, e_80_29, e_80_32, e_80_33, e_80_36, e_80_39, e_80_40, e_80_43, e_80_43r, e_80_44, e_80_47, e_80_48, e_80_49, e_80_50, e_80_51, e_80_52, e_80_53, e_80_56, e_80_57, e_80_60, e_80_63, ↓reduceIte, Int32.reduceAdd, Int32.reduceSub, an_0, an_1, an_2, an_3, an_4, an_5, tc_0, tc_1, tc_2, tc_3, tc_4, tc_5, tc_6, tc_7, tc_8, tc_9, tc_10, tc_11, tc_12, tc_13, tc_14, tc_15, tc_16, tc_17, tc_18, tc_19, tc_20, tc_21, tc_22, tc_23, tc_24, tc_25, tc_26, tc_27, tc_28, tc_29, tc_30, tc_31, tc_32, lcl_none, lcl_int, lcl_ref, lcl_null, lcl_long, okR_nil, okR_int, okR_ref, okR_null, okR_long, pushR_some, pushR_none, va_rf_some, va_rf_none, true_and, and_true, true_implies, false_implies, not_true_eq_false, not_false_eq_true, implies_true, bI_eq0, bI_eq1, bI_01, Classical.not_not, or_em, false_and, and_false, hS.1, hS.2.1, hS.2.2.1, hS.2.2.2.1, kT_0, kT_1, kT_2, kT_15, kT_16, kT_17, kT_18, kT_19, kT_80, kT_81, kT_82, kT_89, kT_90, kT_91, kT_92, kT_93, kT_94, kT_95, kT_96, kT_97, kT_98, kT_99, kT_100, kT_101, nT_2, nT_16, nT_17, nT_19, nT_81, nT_82, nT_90, nT_91, nT_94, nT_95, nT_97, nT_98, nT_100, nT_101, rT_0_0, rT_0_3, rT_0_4, rT_0_5, rT_0_6, rT_0_7, rT_0_8, rT_0_9, rT_0_10, rT_1_0, rT_15_0, rT_15_1, rT_18_0, rT_80_0, rT_80_1, rT_89_0, rT_89_1, rT_93_6, rT_93_7, rT_96_0, rT_96_1, rT_99_0, rT_99_1, chS1, chK, chR7, chK7, chN7, chR8, chK8, chN8, chR9, chK9, chN9, chR10, chK10, chN10, chR11, chK11, chN11, c_hasLife, c_isAliveC, a1, hx]
      exact hS
    · show EvD 20 148 [.ref 102, .int l] M1 _
      rw [b_148 (by decide)]
      simp +decide only [e_148_0, e_148_1, e_148_2, e_148_5, e_148_8, e_148_10, e_148_11, e_148_12, e_148_13, e_148_16, e_148_19, e_148_21, e_148_22, e_148_23, e_148_26, e_148_27, e_148_30, e_148_32, e_148_33, e_148_36, e_148_38, e_148_39, e_148_40, e_148_41, e_148_42, e_148_43, e_148_44, e_148_45, e_148_46, e_148_47, e_148_50, e_148_52, e_148_53, ↓reduceIte, Int32.reduceAdd, Int32.reduceSub, an_0, an_1, an_2, an_3, an_4, an_5, tc_0, tc_1, tc_2, tc_3, tc_4, tc_5, tc_6, tc_7, tc_8, tc_9, tc_10, tc_11, tc_12, tc_13, tc_14, tc_15, tc_16, tc_17, tc_18, tc_19, tc_20, tc_21, tc_22, tc_23, tc_24, tc_25, tc_26, tc_27, tc_28, tc_29, tc_30, tc_31, tc_32, lcl_none, lcl_int, lcl_ref, lcl_null, lcl_long, okR_nil, okR_int, okR_ref, okR_null, okR_long, pushR_some, pushR_none, va_rf_some, va_rf_none, true_and, and_true, true_implies, false_implies, not_true_eq_false, not_false_eq_true, implies_true, bI_eq0, bI_eq1, bI_01, Classical.not_not, or_em, false_and, and_false, hS1.1, hS1.2.1, hS1.2.2.1, kT_102, kT_103, kT_104, kT_105, kT_106, kT_107, kT_108, kT_109, kT_110, kT_111, kT_112, kT_113, kT_114, kT_115, kT_116, kT_117, kT_118, kT_119, kT_120, nT_103, nT_104, nT_105, nT_106, nT_107, nT_108, nT_109, nT_110, nT_111, nT_112, nT_113, nT_114, nT_115, nT_116, nT_117, nT_118, nT_119, nT_120, rT_102_1, rT_102_12, rT_102_13, rT_102_14, rT_102_18, rT_102_19, rT_102_20, rT_102_21, rT_102_22, rT_102_23, rT_102_25, rT_102_26, rT_102_27, rT_102_30, rT_102_31, rT_102_32, rT_102_33, rT_102_34, c_isLifeM (d := 2) (Nat.le_refl 2) hS1, hxm M1 hM1]
      exact hS1
