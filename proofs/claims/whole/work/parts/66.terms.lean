/-! terms, the class -/
def wT (σ : Sg) (L P T j n : Nat) : Nat → Nat := wnN L (cfN (oqN σ) 0 0) (cfN (oqN σ) (σ 5 11) (σ 5 12)) (pvN (vN σ) T P (hsN (σ 5) (nI j)) (haN (σ 5))) n
theorem TR_T {L P j T : Nat} {σ : Sg} (hI : IV L P σ) (hj : j < P) (hT : T ≤ 10) : TRp L P (vN σ) (oqN σ) (hsN (σ 5) (nI j)) (haN (σ 5)) T := by
  obtain ⟨h1, h2, h3, h4, h5⟩ := TR_of hI hj
  exact ⟨h1, h2, h3, hT, h5⟩
theorem wT_30 {L P j n T : Nat} {σ : Sg} (hI : IV L P σ) (hj : j < P) (hT : T ≤ 10) (hn : n ≤ 20) : ∀ A, A < 2 ^ L → wT σ L P T j n A < 2 ^ 30 := by
  intro A hA
  obtain ⟨hL, hP5, hV, hT, hs, hd, hsd, hq⟩ := TR_T hI hj hT
  have h32 := pow_L hL
  have h := wn_le (c := cfN (oqN σ) 0 0) (cg := cfN (oqN σ) (σ 5 11) (σ 5 12)) (p := pvN (vN σ) T P (hsN (σ 5) (nI j)) (haN (σ 5))) hL (cfN_le hq) (cfN_le hq) (fun B hB => pvN_le hV hT hs hd hsd (by omega)) n A hA
  have : 999000 * n ≤ 999000 * 20 := Nat.mul_le_mul_left _ hn
  unfold wT
  omega
theorem anB_up {p : Nat → Bool} {L : Nat} (h : ∀ l, L ≤ l → p l = false) : ∀ m, anB p (L + m) = anB p L := by
  intro m
  induction m with
  | zero => rfl
  | succ m ih => show (anB p (L + m) || p (L + m)) = anB p L; rw [ih, h (L + m) (by omega), Bool.or_false]
theorem dg_up {f : Nat → Nat} {a x L : Nat} (hL : L ≤ 5) (hx : x < 2 ^ L) : anB (dgB f a x) 5 = anB (dgB f a x) L := by
  have h := anB_up (p := dgB f a x) (L := L) (fun l hl => by unfold dgB; rw [bitB_up hx hl]; rfl) (5 - L)
  rw [show L + (5 - L) = 5 by omega] at h
  exact h
def sgB (σ : Sg) (L P n a T j : Nat) : Bool := anB (dgB (wT σ L P T j n) a (otN σ a j)) L
theorem L_sgC {L P a n T : Nat} {b : Bool} {σ : Sg} {M0 : ab_M} {Q : ab_Q} (hC0 : RC b M0 σ) (hI : IV L P σ) (ha : σ 5 10 = nI a) (haL : a < 2 ^ L) (hn : n ≤ 20) (hT : T ≤ 10) (hQ : ∀ M1, Sh b M1 → (∀ a, a ≠ 93 → mI M1 a = mI M0 a) → Q (some (.int (b01 (anB (sgB σ L P n a T) P)))) M1) : ∀ m j M, j + m = P → anB (sgB σ L P n a T) j = false → Sh b M → (∀ a, a ≠ 93 → mI M a = mI M0 a) → Ev 4 110 2 [some (.ref 0), some (.int (nI T)), some (.int (nI n)), some (.int (nI j))] [] M Q := by
  obtain ⟨hL, hP, iL, iP⟩ := IV_n hI
  have h32 := pow_L hL
  intro m
  induction m with
  | zero =>
    intro j M hj hz hS hf
    have hC := RC_93 hC0 hf
    have a2 : mI M (chL b) 6 = nI P := hC.1.1.2.1.trans iP
    have h1 : (nI P ≤ nI j) = True := by rw [nI_leE (by omega) (by omega)]; exact eq_true (by omega)
    have hq := hQ M hS hf
    rw [show anB (sgB σ L P n a T) P = false by rw [show anB (sgB σ L P n a T) P = anB (sgB σ L P n a T) j by rw [show j = P by omega]]; exact hz] at hq
    rw [e_110_2]
    simp +decide only [e_110_3, e_110_4, e_110_7, e_110_10, e_110_92, e_110_93, ↓reduceIte, Int32.reduceAdd, Int32.reduceSub, an_0, an_1, an_2, an_3, an_4, an_5, tc_0, tc_1, tc_2, tc_3, tc_4, tc_5, tc_6, tc_7, tc_8, tc_9, tc_10, tc_11, tc_12, tc_13, tc_14, tc_15, tc_16, tc_17, tc_18, tc_19, tc_20, tc_21, tc_22, tc_23, tc_24, tc_25, tc_26, tc_27, tc_28, tc_29, tc_30, tc_31, tc_32, lcl_none, lcl_int, lcl_ref, lcl_null, lcl_long, okR_nil, okR_int, okR_ref, okR_null, okR_long, pushR_some, pushR_none, va_rf_some, va_rf_none, true_and, and_true, true_implies, false_implies, not_true_eq_false, not_false_eq_true, implies_true, bI_eq0, bI_eq1, bI_01, Classical.not_not, or_em, false_and, and_false, hS.1, hS.2.1, hS.2.2.1, hS.2.2.2.1, kT_0, kT_1, kT_2, kT_15, kT_16, kT_17, kT_18, kT_19, kT_80, kT_81, kT_82, kT_89, kT_90, kT_91, kT_92, kT_93, kT_94, kT_95, kT_96, kT_97, kT_98, kT_99, kT_100, kT_101, nT_2, nT_16, nT_17, nT_19, nT_81, nT_82, nT_90, nT_91, nT_94, nT_95, nT_97, nT_98, nT_100, nT_101, rT_0_0, rT_0_3, rT_0_4, rT_0_5, rT_0_6, rT_0_7, rT_0_8, rT_0_9, rT_0_10, rT_1_0, rT_15_0, rT_15_1, rT_18_0, rT_80_0, rT_80_1, rT_89_0, rT_89_1, rT_93_6, rT_93_7, rT_96_0, rT_96_1, rT_99_0, rT_99_1, chS1, chK, chR7, chK7, chN7, chR8, chK8, chN8, chR9, chK9, chN9, chR10, chK10, chN10, chR11, chK11, chN11, a2, h1]
    exact hq
  | succ m ih =>
    intro j M hj hz hS hf
    have hC := RC_93 hC0 hf
    have a2 : mI M (chL b) 6 = nI P := hC.1.1.2.1.trans iP
    have h1 : (nI P ≤ nI j) = False := by rw [nI_leE (by omega) (by omega)]; exact eq_false (by omega)
    rw [e_110_2]
    simp +decide only [e_110_3, e_110_4, e_110_7, e_110_10, e_110_13, e_110_14, e_110_17, e_110_18, e_110_21, e_110_22, e_110_25, e_110_26, ↓reduceIte, Int32.reduceAdd, Int32.reduceSub, an_0, an_1, an_2, an_3, an_4, an_5, tc_0, tc_1, tc_2, tc_3, tc_4, tc_5, tc_6, tc_7, tc_8, tc_9, tc_10, tc_11, tc_12, tc_13, tc_14, tc_15, tc_16, tc_17, tc_18, tc_19, tc_20, tc_21, tc_22, tc_23, tc_24, tc_25, tc_26, tc_27, tc_28, tc_29, tc_30, tc_31, tc_32, lcl_none, lcl_int, lcl_ref, lcl_null, lcl_long, okR_nil, okR_int, okR_ref, okR_null, okR_long, pushR_some, pushR_none, va_rf_some, va_rf_none, true_and, and_true, true_implies, false_implies, not_true_eq_false, not_false_eq_true, implies_true, bI_eq0, bI_eq1, bI_01, Classical.not_not, or_em, false_and, and_false, hS.1, hS.2.1, hS.2.2.1, hS.2.2.2.1, kT_0, kT_1, kT_2, kT_15, kT_16, kT_17, kT_18, kT_19, kT_80, kT_81, kT_82, kT_89, kT_90, kT_91, kT_92, kT_93, kT_94, kT_95, kT_96, kT_97, kT_98, kT_99, kT_100, kT_101, nT_2, nT_16, nT_17, nT_19, nT_81, nT_82, nT_90, nT_91, nT_94, nT_95, nT_97, nT_98, nT_100, nT_101, rT_0_0, rT_0_3, rT_0_4, rT_0_5, rT_0_6, rT_0_7, rT_0_8, rT_0_9, rT_0_10, rT_1_0, rT_15_0, rT_15_1, rT_18_0, rT_80_0, rT_80_1, rT_89_0, rT_89_1, rT_93_6, rT_93_7, rT_96_0, rT_96_1, rT_99_0, rT_99_1, chS1, chK, chR7, chK7, chN7, chR8, chK8, chN8, chR9, chK9, chN9, chR10, chK10, chN10, chR11, chK11, chN11, a2, h1]
    refine EvD_mono (c_asNow (d := 4) (by decide) hS hC hI) ?_
    rintro r M1 ⟨rfl, hS1, hT1, hf1⟩
    simp +decide only [e_110_29, e_110_30, e_110_33, e_110_34, e_110_37, e_110_38, e_110_41, e_110_42, e_110_45, e_110_46, ↓reduceIte, Int32.reduceAdd, Int32.reduceSub, an_0, an_1, an_2, an_3, an_4, an_5, tc_0, tc_1, tc_2, tc_3, tc_4, tc_5, tc_6, tc_7, tc_8, tc_9, tc_10, tc_11, tc_12, tc_13, tc_14, tc_15, tc_16, tc_17, tc_18, tc_19, tc_20, tc_21, tc_22, tc_23, tc_24, tc_25, tc_26, tc_27, tc_28, tc_29, tc_30, tc_31, tc_32, lcl_none, lcl_int, lcl_ref, lcl_null, lcl_long, okR_nil, okR_int, okR_ref, okR_null, okR_long, pushR_some, pushR_none, va_rf_some, va_rf_none, true_and, and_true, true_implies, false_implies, not_true_eq_false, not_false_eq_true, implies_true, bI_eq0, bI_eq1, bI_01, Classical.not_not, or_em, false_and, and_false, hS1.1, hS1.2.1, hS1.2.2.1, hS1.2.2.2.1, kT_0, kT_1, kT_2, kT_15, kT_16, kT_17, kT_18, kT_19, kT_80, kT_81, kT_82, kT_89, kT_90, kT_91, kT_92, kT_93, kT_94, kT_95, kT_96, kT_97, kT_98, kT_99, kT_100, kT_101, nT_2, nT_16, nT_17, nT_19, nT_81, nT_82, nT_90, nT_91, nT_94, nT_95, nT_97, nT_98, nT_100, nT_101, rT_0_0, rT_0_3, rT_0_4, rT_0_5, rT_0_6, rT_0_7, rT_0_8, rT_0_9, rT_0_10, rT_1_0, rT_15_0, rT_15_1, rT_18_0, rT_80_0, rT_80_1, rT_89_0, rT_89_1, rT_93_6, rT_93_7, rT_96_0, rT_96_1, rT_99_0, rT_99_1, chS1, chK, chR7, chK7, chN7, chR8, chK8, chN8, chR9, chK9, chN9, chR10, chK10, chN10, chR11, chK11, chN11, mR_wI, mK_wI]
    have hb := chL_lt b
    have hT2 : TR b (wI M1 93 4 (nI T)) L P (vN σ) (oqN σ) (hsN (σ 5) (nI j)) (haN (σ 5)) (σ 5 11) (σ 5 12) T := by
      obtain ⟨⟨q1, q2, q3, q4⟩, q5, q6, q7, q8, q9⟩ := hT1
      refine ⟨⟨?_, ?_, ?_, fun l hl => ?_⟩, ?_, ?_, ?_, ?_, ?_⟩
      · rw [mI_wI_ne (by omega)]; exact q1
      · rw [mI_wI_ne (by omega)]; exact q2
      · rw [mI_wI_ne (by omega)]; exact q3
      · rw [mI_wI_ne (by omega)]; exact q4 l hl
      · rw [mI_wI, if_neg (by decide)]; exact q5
      · rw [mI_wI, if_neg (by decide)]; exact q6
      · rw [mI_wI, if_neg (by decide)]; exact q7
      · rw [mI_wI, if_neg (by decide)]; exact q8
      · rw [mI_wI, if_pos ⟨rfl, rfl⟩]
    refine EvD_mono (C_look (d := 4) (by decide) (show Sh b (wI M1 93 4 (nI T)) from hS1) (TR_T hI (show j < P by omega) hT) hT2 hn) ?_
    rintro r M2 ⟨rfl, hW2, hf2⟩
    have hS2 := hW2.1
    have hf3 : ∀ a, a ≠ 93 → mI M2 a = mI M0 a := fun a ha => by rw [hf2 a ha, mI_wI_ne ha, hf1 a ha, hf a ha]
    have hC2 := RC_93 hC0 hf3
    have n3 : mI M2 15 2 = nI a := hC2.2.2.1.2.2.1.trans ha
    have hhb : ∀ K, EvD 4 41 [.ref 15, .int (nI j)] M2 K = K (some (.int (nI (hsN (σ 5) (nI j))))) M2 := fun K => c_heldByC (d := 4) (by decide) hS2 hC2.2.2.1.2.1
    have hot : nI a &&& (nI (hsN (σ 5) (nI j)) ^^^ (-1)) = nI (otN σ a j) := ot_nI a (by omega) _ (hsN_lt _ _)
    have hol := otN_lt (σ := σ) (j := j) haL
    have hdth : ∀ K, EvD 4 71 [.ref 93, .int (nI (otN σ a j)), .int (nI a)] M2 K = K (some (.int (nI (setN (dgB (wT σ L P T j n) a (otN σ a j)) 5)))) M2 := fun K => c_deaths (d := 4) (f := wT σ L P T j n) (by decide) hW2 hL haL (by omega) (wT_30 hI (by omega) hT hn)
    have h5 := setN_lt (dgB (wT σ L P T j n) a (otN σ a j)) 5
    have hs0 : (nI (setN (dgB (wT σ L P T j n) a (otN σ a j)) 5) = 0) = (anB (dgB (wT σ L P T j n) a (otN σ a j)) L = false) := by
      rw [nI_0E (by omega), setN_0, dg_up hL hol]
    have en : anB (sgB σ L P n a T) (j + 1) = (anB (sgB σ L P n a T) j || anB (dgB (wT σ L P T j n) a (otN σ a j)) L) := rfl
    rw [hz] at en
    cases hg : anB (dgB (wT σ L P T j n) a (otN σ a j)) L with
    | false =>
      rw [hg] at hs0 en
      have hs0' : (nI (setN (dgB (wT σ L P T j n) a (otN σ a j)) 5) = 0) = True := hs0.trans (eq_true rfl)
      simp +decide only [e_110_49, e_110_50, e_110_53, e_110_54, e_110_57, e_110_60, e_110_61, e_110_64, e_110_65, e_110_68, e_110_69, e_110_70, e_110_71, e_110_72, e_110_75, e_110_78, e_110_81, e_110_84, e_110_85, e_110_86, e_110_89, ↓reduceIte, Int32.reduceAdd, Int32.reduceSub, an_0, an_1, an_2, an_3, an_4, an_5, tc_0, tc_1, tc_2, tc_3, tc_4, tc_5, tc_6, tc_7, tc_8, tc_9, tc_10, tc_11, tc_12, tc_13, tc_14, tc_15, tc_16, tc_17, tc_18, tc_19, tc_20, tc_21, tc_22, tc_23, tc_24, tc_25, tc_26, tc_27, tc_28, tc_29, tc_30, tc_31, tc_32, lcl_none, lcl_int, lcl_ref, lcl_null, lcl_long, okR_nil, okR_int, okR_ref, okR_null, okR_long, pushR_some, pushR_none, va_rf_some, va_rf_none, true_and, and_true, true_implies, false_implies, not_true_eq_false, not_false_eq_true, implies_true, bI_eq0, bI_eq1, bI_01, Classical.not_not, or_em, false_and, and_false, hS2.1, hS2.2.1, hS2.2.2.1, hS2.2.2.2.1, kT_0, kT_1, kT_2, kT_15, kT_16, kT_17, kT_18, kT_19, kT_80, kT_81, kT_82, kT_89, kT_90, kT_91, kT_92, kT_93, kT_94, kT_95, kT_96, kT_97, kT_98, kT_99, kT_100, kT_101, nT_2, nT_16, nT_17, nT_19, nT_81, nT_82, nT_90, nT_91, nT_94, nT_95, nT_97, nT_98, nT_100, nT_101, rT_0_0, rT_0_3, rT_0_4, rT_0_5, rT_0_6, rT_0_7, rT_0_8, rT_0_9, rT_0_10, rT_1_0, rT_15_0, rT_15_1, rT_18_0, rT_80_0, rT_80_1, rT_89_0, rT_89_1, rT_93_6, rT_93_7, rT_96_0, rT_96_1, rT_99_0, rT_99_1, chS1, chK, chR7, chK7, chN7, chR8, chK8, chN8, chR9, chK9, chN9, chR10, chK10, chN10, chR11, chK11, chN11, n3, hhb, hot, hdth, hs0', nI_1]
      exact ih (j + 1) M2 (by omega) en hS2 hf3
    | true =>
      rw [hg] at hs0 en
      have hs0' : (nI (setN (dgB (wT σ L P T j n) a (otN σ a j)) 5) = 0) = False := hs0.trans (eq_false (by decide))
      have hall : anB (sgB σ L P n a T) P = true := by
        have key : ∀ k, j + 1 ≤ k → anB (sgB σ L P n a T) k = true := by
          intro k hk
          induction k with
          | zero => omega
          | succ k ihk =>
            by_cases e : j + 1 = k + 1
            · rw [← e]; exact en
            · show (anB (sgB σ L P n a T) k || _) = true
              rw [ihk (by omega), Bool.true_or]
        exact key P (by omega)
      have hq := hQ M2 hS2 hf3
      rw [hall] at hq
      simp +decide only [e_110_49, e_110_50, e_110_53, e_110_54, e_110_57, e_110_60, e_110_61, e_110_64, e_110_65, e_110_68, e_110_69, e_110_70, e_110_71, e_110_72, e_110_75, e_110_78, e_110_81, e_110_84, e_110_85, ↓reduceIte, Int32.reduceAdd, Int32.reduceSub, an_0, an_1, an_2, an_3, an_4, an_5, tc_0, tc_1, tc_2, tc_3, tc_4, tc_5, tc_6, tc_7, tc_8, tc_9, tc_10, tc_11, tc_12, tc_13, tc_14, tc_15, tc_16, tc_17, tc_18, tc_19, tc_20, tc_21, tc_22, tc_23, tc_24, tc_25, tc_26, tc_27, tc_28, tc_29, tc_30, tc_31, tc_32, lcl_none, lcl_int, lcl_ref, lcl_null, lcl_long, okR_nil, okR_int, okR_ref, okR_null, okR_long, pushR_some, pushR_none, va_rf_some, va_rf_none, true_and, and_true, true_implies, false_implies, not_true_eq_false, not_false_eq_true, implies_true, bI_eq0, bI_eq1, bI_01, Classical.not_not, or_em, false_and, and_false, hS2.1, hS2.2.1, hS2.2.2.1, hS2.2.2.2.1, kT_0, kT_1, kT_2, kT_15, kT_16, kT_17, kT_18, kT_19, kT_80, kT_81, kT_82, kT_89, kT_90, kT_91, kT_92, kT_93, kT_94, kT_95, kT_96, kT_97, kT_98, kT_99, kT_100, kT_101, nT_2, nT_16, nT_17, nT_19, nT_81, nT_82, nT_90, nT_91, nT_94, nT_95, nT_97, nT_98, nT_100, nT_101, rT_0_0, rT_0_3, rT_0_4, rT_0_5, rT_0_6, rT_0_7, rT_0_8, rT_0_9, rT_0_10, rT_1_0, rT_15_0, rT_15_1, rT_18_0, rT_80_0, rT_80_1, rT_89_0, rT_89_1, rT_93_6, rT_93_7, rT_96_0, rT_96_1, rT_99_0, rT_99_1, chS1, chK, chR7, chK7, chN7, chR8, chK8, chN8, chR9, chK9, chN9, chR10, chK10, chN10, chR11, chK11, chN11, n3, hhb, hot, hdth, hs0']
      exact hq
theorem C_some {d L P a n T : Nat} {b : Bool} {σ : Sg} {M : ab_M} (hd : 5 ≤ d) (hS : Sh b M) (hC : RC b M σ) (hI : IV L P σ) (ha : σ 5 10 = nI a) (haL : a < 2 ^ L) (hn : n ≤ 20) (hT : T ≤ 10) : EvD d 110 [.ref 0, .int (nI T), .int (nI n)] M (fun r M1 => r = some (.int (b01 (anB (sgB σ L P n a T) P))) ∧ Sh b M1 ∧ ∀ a, a ≠ 93 → mI M1 a = mI M a) := by
  rw [b_110 hd]
  simp +decide only [e_110_0, e_110_1, ↓reduceIte, Int32.reduceAdd, Int32.reduceSub, an_0, an_1, an_2, an_3, an_4, an_5, tc_0, tc_1, tc_2, tc_3, tc_4, tc_5, tc_6, tc_7, tc_8, tc_9, tc_10, tc_11, tc_12, tc_13, tc_14, tc_15, tc_16, tc_17, tc_18, tc_19, tc_20, tc_21, tc_22, tc_23, tc_24, tc_25, tc_26, tc_27, tc_28, tc_29, tc_30, tc_31, tc_32, lcl_none, lcl_int, lcl_ref, lcl_null, lcl_long, okR_nil, okR_int, okR_ref, okR_null, okR_long, pushR_some, pushR_none, va_rf_some, va_rf_none, true_and, and_true, true_implies, false_implies, not_true_eq_false, not_false_eq_true, implies_true, bI_eq0, bI_eq1, bI_01, Classical.not_not, or_em, false_and, and_false]
  exact L_sgC hC hI ha haL hn hT (fun M1 hS1 hf1 => ⟨rfl, hS1, hf1⟩) P 0 M (by omega) rfl hS (fun _ _ => rfl)
def ltT (f : Nat → Bool) : Nat → Int32
  | 0 => -1
  | m + 1 => if f (10 - m) = true then ltT f m else nI (10 - m)
theorem L_teC {L P a n : Nat} {b : Bool} {σ : Sg} {M0 : ab_M} {Q : ab_Q} (hC0 : RC b M0 σ) (hI : IV L P σ) (ha : σ 5 10 = nI a) (haL : a < 2 ^ L) (hn : n ≤ 20) : ∀ m T M, T + m = 11 → (∀ M1, Sh b M1 → (∀ a, a ≠ 93 → mI M1 a = mI M0 a) → Q (some (.int (ltT (fun T => anB (sgB σ L P n a T) P) m))) M1) → Sh b M → (∀ a, a ≠ 93 → mI M a = mI M0 a) → Ev 5 89 12 [some (.ref 0), some (.int (nI n)), some (.int (nI T))] [] M Q := by
  intro m
  induction m with
  | zero =>
    intro T M hT hQ hS hf
    have h1 : (10 < nI T) = True := by rw [show T = 11 by omega]; exact eq_true (by decide)
    rw [e_89_12]
    simp +decide only [e_89_13, e_89_15, e_89_35, e_89_36, ↓reduceIte, Int32.reduceAdd, Int32.reduceSub, an_0, an_1, an_2, an_3, an_4, an_5, tc_0, tc_1, tc_2, tc_3, tc_4, tc_5, tc_6, tc_7, tc_8, tc_9, tc_10, tc_11, tc_12, tc_13, tc_14, tc_15, tc_16, tc_17, tc_18, tc_19, tc_20, tc_21, tc_22, tc_23, tc_24, tc_25, tc_26, tc_27, tc_28, tc_29, tc_30, tc_31, tc_32, lcl_none, lcl_int, lcl_ref, lcl_null, lcl_long, okR_nil, okR_int, okR_ref, okR_null, okR_long, pushR_some, pushR_none, va_rf_some, va_rf_none, true_and, and_true, true_implies, false_implies, not_true_eq_false, not_false_eq_true, implies_true, bI_eq0, bI_eq1, bI_01, Classical.not_not, or_em, false_and, and_false, h1]
    exact hQ M hS hf
  | succ m ih =>
    intro T M hT hQ hS hf
    have h1 : (10 < nI T) = False := by rw [show (10 : Int32) = nI 10 from rfl, nI_ltE (by decide) (by omega)]; exact eq_false (by omega)
    have hC := RC_93 hC0 hf
    have hk : mK M 0 = 10 := by rw [hS.1]; rfl
    rw [e_89_12]
    simp +decide only [e_89_13, e_89_15, e_89_18, e_89_19, e_89_20, e_89_21, ↓reduceIte, Int32.reduceAdd, Int32.reduceSub, an_0, an_1, an_2, an_3, an_4, an_5, tc_0, tc_1, tc_2, tc_3, tc_4, tc_5, tc_6, tc_7, tc_8, tc_9, tc_10, tc_11, tc_12, tc_13, tc_14, tc_15, tc_16, tc_17, tc_18, tc_19, tc_20, tc_21, tc_22, tc_23, tc_24, tc_25, tc_26, tc_27, tc_28, tc_29, tc_30, tc_31, tc_32, lcl_none, lcl_int, lcl_ref, lcl_null, lcl_long, okR_nil, okR_int, okR_ref, okR_null, okR_long, pushR_some, pushR_none, va_rf_some, va_rf_none, true_and, and_true, true_implies, false_implies, not_true_eq_false, not_false_eq_true, implies_true, bI_eq0, bI_eq1, bI_01, Classical.not_not, or_em, false_and, and_false, h1, hk]
    refine EvD_mono (C_some (d := 5) (Nat.le_refl 5) hS hC hI ha haL hn (show T ≤ 10 by omega)) ?_
    rintro r M1 ⟨rfl, hS1, hf1⟩
    have er : ltT (fun T => anB (sgB σ L P n a T) P) (m + 1) = if anB (sgB σ L P n a (10 - m)) P = true then ltT (fun T => anB (sgB σ L P n a T) P) m else nI (10 - m) := rfl
    rw [er, show 10 - m = T by omega] at hQ
    have hf2 : ∀ a, a ≠ 93 → mI M1 a = mI M0 a := fun a ha => by rw [hf1 a ha, hf a ha]
    cases hg : anB (sgB σ L P n a T) P with
    | true =>
      rw [hg, if_pos rfl] at hQ
      simp +decide only [e_89_24, e_89_27, e_89_28, e_89_29, e_89_32, ↓reduceIte, Int32.reduceAdd, Int32.reduceSub, an_0, an_1, an_2, an_3, an_4, an_5, tc_0, tc_1, tc_2, tc_3, tc_4, tc_5, tc_6, tc_7, tc_8, tc_9, tc_10, tc_11, tc_12, tc_13, tc_14, tc_15, tc_16, tc_17, tc_18, tc_19, tc_20, tc_21, tc_22, tc_23, tc_24, tc_25, tc_26, tc_27, tc_28, tc_29, tc_30, tc_31, tc_32, lcl_none, lcl_int, lcl_ref, lcl_null, lcl_long, okR_nil, okR_int, okR_ref, okR_null, okR_long, pushR_some, pushR_none, va_rf_some, va_rf_none, true_and, and_true, true_implies, false_implies, not_true_eq_false, not_false_eq_true, implies_true, bI_eq0, bI_eq1, bI_01, Classical.not_not, or_em, false_and, and_false, b01, cond_true, nI_1]
      exact ih (T + 1) M1 (by omega) hQ hS1 hf2
    | false =>
      rw [hg, if_neg (by decide)] at hQ
      simp +decide only [e_89_24, e_89_27, e_89_28, e_89_29, e_89_32, ↓reduceIte, Int32.reduceAdd, Int32.reduceSub, an_0, an_1, an_2, an_3, an_4, an_5, tc_0, tc_1, tc_2, tc_3, tc_4, tc_5, tc_6, tc_7, tc_8, tc_9, tc_10, tc_11, tc_12, tc_13, tc_14, tc_15, tc_16, tc_17, tc_18, tc_19, tc_20, tc_21, tc_22, tc_23, tc_24, tc_25, tc_26, tc_27, tc_28, tc_29, tc_30, tc_31, tc_32, lcl_none, lcl_int, lcl_ref, lcl_null, lcl_long, okR_nil, okR_int, okR_ref, okR_null, okR_long, pushR_some, pushR_none, va_rf_some, va_rf_none, true_and, and_true, true_implies, false_implies, not_true_eq_false, not_false_eq_true, implies_true, bI_eq0, bI_eq1, bI_01, Classical.not_not, or_em, false_and, and_false, b01, cond_false]
      exact hQ M1 hS1 hf2
