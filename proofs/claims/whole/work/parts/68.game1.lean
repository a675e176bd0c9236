/-! game: worth beside, costs -/
theorem c_asNowJ {d L P j : Nat} {b : Bool} {σ : Sg} {M : ab_M} (hd : 2 ≤ d) (hS : Sh b M) (hC : RC b M σ) (hI : IV L P σ) : EvD d 63 [.ref 93, .ref (chL b), .ref 15, .int (nI j)] M (fun r M1 => r = none ∧ Sh b M1 ∧ TR b M1 L P (vN σ) (oqN σ) (hsN (σ 5) (nI j)) (haN (σ 5)) (σ 5 11) (σ 5 12) (tN σ) ∧ (∀ a, a ≠ 93 → mI M1 a = mI M a) ∧ mJ M1 = mJ M) := by
  obtain ⟨hL, hP, iL, iP⟩ := IV_n hI
  obtain ⟨⟨⟨a1, a2, a3⟩, -, t0, t1, -⟩, ⟨c2, -⟩, ⟨n1, n2, n3, n4, n5, n6⟩, -⟩ := hC
  obtain ⟨-, -, -, -, ⟨hV, hT, -⟩, hq, -⟩ := hI
  have hb := chL_lt b
  have h1 : ∀ K, EvD 1 41 [.ref 15, .int (nI j)] M K = K (some (.int (nI (hsN (σ 5) (nI j))))) M := fun K => c_heldByC (d := 1) (Nat.le_refl 1) hS n2
  have n2' : ∀ k, k < 5 → mI (wI M 93 0 (nI (hsN (σ 5) (nI j)))) 17 k = σ 5 (5 + k) := fun k hk => by rw [mI_wI_ne (by decide)]; exact n2 k hk
  have h2 : ∀ K, EvD 1 42 [.ref 15] (wI M 93 0 (nI (hsN (σ 5) (nI j)))) K = K (some (.int (nI (haN (σ 5))))) (wI M 93 0 (nI (hsN (σ 5) (nI j)))) := fun K => c_heldAnyC (d := 1) (Nat.le_refl 1) (show Sh b (wI M 93 0 (nI (hsN (σ 5) (nI j)))) from hS) n2'
  have fC1 : ((chL b : Nat) = 93) = False := eq_false (by omega)
  rw [b_63 hd]
  simp +decide only [e_63_0, e_63_1, e_63_2, e_63_3, e_63_6, ↓reduceIte, Int32.reduceAdd, Int32.reduceSub, an_0, an_1, an_2, an_3, an_4, an_5, tc_0, tc_1, tc_2, tc_3, tc_4, tc_5, tc_6, tc_7, tc_8, tc_9, tc_10, tc_11, tc_12, tc_13, tc_14, tc_15, tc_16, tc_17, tc_18, tc_19, tc_20, tc_21, tc_22, tc_23, tc_24, tc_25, tc_26, tc_27, tc_28, tc_29, tc_30, tc_31, tc_32, lcl_none, lcl_int, lcl_ref, lcl_null, lcl_long, okR_nil, okR_int, okR_ref, okR_null, okR_long, pushR_some, pushR_none, va_rf_some, va_rf_none, true_and, and_true, true_implies, false_implies, not_true_eq_false, not_false_eq_true, implies_true, bI_eq0, bI_eq1, bI_01, Classical.not_not, or_em, false_and, and_false, hS.1, hS.2.1, hS.2.2.1, hS.2.2.2.1, kT_0, kT_1, kT_2, kT_15, kT_16, kT_17, kT_18, kT_19, kT_80, kT_81, kT_82, kT_89, kT_90, kT_91, kT_92, kT_93, kT_94, kT_95, kT_96, kT_97, kT_98, kT_99, kT_100, kT_101, nT_2, nT_16, nT_17, nT_19, nT_81, nT_82, nT_90, nT_91, nT_94, nT_95, nT_97, nT_98, nT_100, nT_101, rT_0_0, rT_0_3, rT_0_4, rT_0_5, rT_0_6, rT_0_7, rT_0_8, rT_0_9, rT_0_10, rT_1_0, rT_15_0, rT_15_1, rT_18_0, rT_80_0, rT_80_1, rT_89_0, rT_89_1, rT_93_6, rT_93_7, rT_96_0, rT_96_1, rT_99_0, rT_99_1, h1]
  simp +decide only [e_63_9, e_63_10, e_63_11, e_63_14, e_63_17, e_63_18, e_63_19, e_63_22, e_63_25, e_63_26, e_63_27, e_63_30, e_63_33, e_63_34, e_63_35, e_63_38, e_63_41, ↓reduceIte, Int32.reduceAdd, Int32.reduceSub, an_0, an_1, an_2, an_3, an_4, an_5, tc_0, tc_1, tc_2, tc_3, tc_4, tc_5, tc_6, tc_7, tc_8, tc_9, tc_10, tc_11, tc_12, tc_13, tc_14, tc_15, tc_16, tc_17, tc_18, tc_19, tc_20, tc_21, tc_22, tc_23, tc_24, tc_25, tc_26, tc_27, tc_28, tc_29, tc_30, tc_31, tc_32, lcl_none, lcl_int, lcl_ref, lcl_null, lcl_long, okR_nil, okR_int, okR_ref, okR_null, okR_long, pushR_some, pushR_none, va_rf_some, va_rf_none, true_and, and_true, true_implies, false_implies, not_true_eq_false, not_false_eq_true, implies_true, bI_eq0, bI_eq1, bI_01, Classical.not_not, or_em, false_and, and_false, hS.1, hS.2.1, hS.2.2.1, hS.2.2.2.1, kT_0, kT_1, kT_2, kT_15, kT_16, kT_17, kT_18, kT_19, kT_80, kT_81, kT_82, kT_89, kT_90, kT_91, kT_92, kT_93, kT_94, kT_95, kT_96, kT_97, kT_98, kT_99, kT_100, kT_101, nT_2, nT_16, nT_17, nT_19, nT_81, nT_82, nT_90, nT_91, nT_94, nT_95, nT_97, nT_98, nT_100, nT_101, rT_0_0, rT_0_3, rT_0_4, rT_0_5, rT_0_6, rT_0_7, rT_0_8, rT_0_9, rT_0_10, rT_1_0, rT_15_0, rT_15_1, rT_18_0, rT_80_0, rT_80_1, rT_89_0, rT_89_1, rT_93_6, rT_93_7, rT_96_0, rT_96_1, rT_99_0, rT_99_1, chS1, chK, chR7, chK7, chN7, chR8, chK8, chN8, chR9, chK9, chN9, chR10, chK10, chN10, chR11, chK11, chN11, mI_wI, mI_wJ, mI_wR, mJ_wI, mJ_wJ, mJ_wR, mR_wI, mR_wJ, mR_wR, mK_wI, mK_wJ, mK_wR, mN_wI, mN_wJ, mN_wR, mZ_wI, mZ_wJ, mZ_wR, h2, n4, n5, t1, fC1]
  refine ⟨hS, ⟨⟨?_, ?_, ?_, fun l hl => ?_⟩, ?_, ?_, ?_, ?_, ?_⟩, fun a ha => ?_⟩
  · simp [mI_wI, fC1]; exact a1.trans iL
  · simp [mI_wI, fC1]; exact a2.trans iP
  · simp [mI_wI, fC1]; exact t0.trans (toN_of (n := 999) (N := 999) (by decide) (by decide) hV).1
  · have f2 : ((chL b + 1 : Nat) = 93) = False := eq_false (by omega)
    simp only [mI_wI, f2, false_and, if_false]
    exact (c2 l (by omega) (by rw [iL, nI_ltE (by omega) (by omega)]; exact hl)).1.trans (toN_of (n := 100) (N := 100) (by decide) (by decide) (hq l hl).1).1
  · simp [mI_wI]
  · simp [mI_wI]
  · simp [mI_wI]
  · simp [mI_wI]
  · simp [mI_wI]; exact (toN_of (n := 10) (N := 10) (by decide) (by decide) hT).1
  · rw [mI_wI_ne ha, mI_wI_ne ha, mI_wI_ne ha, mI_wI_ne ha, mI_wI_ne ha]
def wH (σ : Sg) (L P j : Nat) (g h : Int32) (n : Nat) : Nat → Nat := wnN L (cfN (oqN σ) 0 0) (cfN (oqN σ) g h) (pwN σ P j) n
theorem wH_30 {L P j n : Nat} {g h : Int32} {σ : Sg} (hI : IV L P σ) (hj : j < P) (hn : n ≤ 20) : ∀ A, A < 2 ^ L → wH σ L P j g h n A < 20000000 := by
  intro A hA
  obtain ⟨hL, hP5, hV, hT, hs, hd, hsd, hq⟩ := TR_of hI hj
  have h32 := pow_L hL
  have h := wn_le (c := cfN (oqN σ) 0 0) (cg := cfN (oqN σ) g h) (p := pwN σ P j) hL (cfN_le hq) (cfN_le hq) (fun B hB => pvN_le hV hT hs hd hsd (by omega)) n A hA
  have : 999000 * n ≤ 999000 * 20 := Nat.mul_le_mul_left _ hn
  unfold wH
  omega
theorem C_wbs {L P j n a : Nat} {b : Bool} {σ : Sg} {g h : Int32} {M : ab_M} (hS : Sh b M) (hC : RC b M σ) (hI : IV L P σ) (ha : σ 5 10 = nI a) (haL : a < 2 ^ L) (hj : j < P) (hn : n ≤ 20) : EvD 5 114 [.ref 0, .int (nI j), .int g, .int h, .int (nI n)] M (fun r M1 => r = some (.long (lN (wH σ L P j g h n a))) ∧ Sh b M1 ∧ (∀ a, a ≠ 93 → mI M1 a = mI M a) ∧ ∀ c, c ≠ 94 → c ≠ 95 → mJ M1 c = mJ M c) := by
  have hL := (IV_n hI).1
  rw [b_114 (by decide)]
  simp +decide only [e_114_0, e_114_1, e_114_4, e_114_5, e_114_8, e_114_9, e_114_12, e_114_13, ↓reduceIte, Int32.reduceAdd, Int32.reduceSub, an_0, an_1, an_2, an_3, an_4, an_5, tc_0, tc_1, tc_2, tc_3, tc_4, tc_5, tc_6, tc_7, tc_8, tc_9, tc_10, tc_11, tc_12, tc_13, tc_14, tc_15, tc_16, tc_17, tc_18, tc_19, tc_20, tc_21, tc_22, tc_23, tc_24, tc_25, tc_26, tc_27, tc_28, tc_29, tc_30, tc_31, tc_32, lcl_none, lcl_int, lcl_ref, lcl_null, lcl_long, okR_nil, okR_int, okR_ref, okR_null, okR_long, pushR_some, pushR_none, va_rf_some, va_rf_none, true_and, and_true, true_implies, false_implies, not_true_eq_false, not_false_eq_true, implies_true, bI_eq0, bI_eq1, bI_01, Classical.not_not, or_em, false_and, and_false, hS.1, hS.2.1, hS.2.2.1, hS.2.2.2.1, kT_0, kT_1, kT_2, kT_15, kT_16, kT_17, kT_18, kT_19, kT_80, kT_81, kT_82, kT_89, kT_90, kT_91, kT_92, kT_93, kT_94, kT_95, kT_96, kT_97, kT_98, kT_99, kT_100, kT_101, nT_2, nT_16, nT_17, nT_19, nT_81, nT_82, nT_90, nT_91, nT_94, nT_95, nT_97, nT_98, nT_100, nT_101, rT_0_0, rT_0_3, rT_0_4, rT_0_5, rT_0_6, rT_0_7, rT_0_8, rT_0_9, rT_0_10, rT_1_0, rT_15_0, rT_15_1, rT_18_0, rT_80_0, rT_80_1, rT_89_0, rT_89_1, rT_93_6, rT_93_7, rT_96_0, rT_96_1, rT_99_0, rT_99_1, chS1, chK, chR7, chK7, chN7, chR8, chK8, chN8, chR9, chK9, chN9, chR10, chK10, chN10, chR11, chK11, chN11]
  refine EvD_mono (c_asNowJ (d := 4) (by decide) hS hC hI) ?_
  rintro r M1 ⟨rfl, hS1, hT1, hf1, hj1⟩
  simp +decide only [e_114_16, e_114_17, e_114_20, e_114_21, e_114_24, e_114_25, e_114_28, e_114_29, e_114_32, e_114_33, e_114_36, e_114_37, e_114_40, e_114_42, ↓reduceIte, Int32.reduceAdd, Int32.reduceSub, an_0, an_1, an_2, an_3, an_4, an_5, tc_0, tc_1, tc_2, tc_3, tc_4, tc_5, tc_6, tc_7, tc_8, tc_9, tc_10, tc_11, tc_12, tc_13, tc_14, tc_15, tc_16, tc_17, tc_18, tc_19, tc_20, tc_21, tc_22, tc_23, tc_24, tc_25, tc_26, tc_27, tc_28, tc_29, tc_30, tc_31, tc_32, lcl_none, lcl_int, lcl_ref, lcl_null, lcl_long, okR_nil, okR_int, okR_ref, okR_null, okR_long, pushR_some, pushR_none, va_rf_some, va_rf_none, true_and, and_true, true_implies, false_implies, not_true_eq_false, not_false_eq_true, implies_true, bI_eq0, bI_eq1, bI_01, Classical.not_not, or_em, false_and, and_false, hS1.1, hS1.2.1, hS1.2.2.1, hS1.2.2.2.1, kT_0, kT_1, kT_2, kT_15, kT_16, kT_17, kT_18, kT_19, kT_80, kT_81, kT_82, kT_89, kT_90, kT_91, kT_92, kT_93, kT_94, kT_95, kT_96, kT_97, kT_98, kT_99, kT_100, kT_101, nT_2, nT_16, nT_17, nT_19, nT_81, nT_82, nT_90, nT_91, nT_94, nT_95, nT_97, nT_98, nT_100, nT_101, rT_0_0, rT_0_3, rT_0_4, rT_0_5, rT_0_6, rT_0_7, rT_0_8, rT_0_9, rT_0_10, rT_1_0, rT_15_0, rT_15_1, rT_18_0, rT_80_0, rT_80_1, rT_89_0, rT_89_1, rT_93_6, rT_93_7, rT_96_0, rT_96_1, rT_99_0, rT_99_1, chS1, chK, chR7, chK7, chN7, chR8, chK8, chN8, chR9, chK9, chN9, chR10, chK10, chN10, chR11, chK11, chN11, mR_wI, mK_wI]
  have hb := chL_lt b
  have hT2 : TR b (wI (wI M1 93 2 g) 93 3 h) L P (vN σ) (oqN σ) (hsN (σ 5) (nI j)) (haN (σ 5)) g h (tN σ) := by
    obtain ⟨⟨q1, q2, q3, q4⟩, q5, q6, q7, q8, q9⟩ := hT1
    refine ⟨⟨?_, ?_, ?_, fun l hl => ?_⟩, ?_, ?_, ?_, ?_, ?_⟩
    · rw [mI_wI_ne (by omega), mI_wI_ne (by omega)]; exact q1
    · rw [mI_wI_ne (by omega), mI_wI_ne (by omega)]; exact q2
    · rw [mI_wI_ne (by omega), mI_wI_ne (by omega)]; exact q3
    · rw [mI_wI_ne (by omega), mI_wI_ne (by omega)]; exact q4 l hl
    · rw [mI_wI, if_neg (by decide), mI_wI, if_neg (by decide)]; exact q5
    · rw [mI_wI, if_neg (by decide), mI_wI, if_neg (by decide)]; exact q6
    · rw [mI_wI, if_neg (by decide), mI_wI, if_pos ⟨rfl, rfl⟩]
    · rw [mI_wI, if_pos ⟨rfl, rfl⟩]
    · rw [mI_wI, if_neg (by decide), mI_wI, if_neg (by decide)]; exact q9
  have hS2 : Sh b (wI (wI M1 93 2 g) 93 3 h) := hS1
  have hf2 : ∀ a, a ≠ 93 → mI (wI (wI M1 93 2 g) 93 3 h) a = mI M a := fun a ha => by rw [mI_wI_ne ha, mI_wI_ne ha, hf1 a ha]
  have hj2 : mJ (wI (wI M1 93 2 g) 93 3 h) = mJ M := hj1
  generalize wI (wI M1 93 2 g) 93 3 h = M2 at hT2 hS2 hf2 hj2 ⊢
  refine EvD_mono (c_lookJ (d := 4) (by decide) hS2 (TR_of hI hj) hT2 hn) ?_
  rintro r M3 ⟨rfl, hS3, h53, hf3, -, hj3, hw3⟩
  have hW3 : TW b M3 L (wH σ L P j g h n) := ⟨hS3, h53, hw3⟩
  have hf4 : ∀ a, a ≠ 93 → mI M3 a = mI M a := fun a ha => by rw [hf3 a ha, hf2 a ha]
  have hC3 : RC b M3 σ := RC_93 hC hf4
  have n3 : mI M3 15 2 = nI a := hC3.2.2.1.2.2.1.trans ha
  simp +decide only [e_114_45, e_114_46, e_114_49, e_114_50, e_114_53, e_114_56, e_114_59, ↓reduceIte, Int32.reduceAdd, Int32.reduceSub, an_0, an_1, an_2, an_3, an_4, an_5, tc_0, tc_1, tc_2, tc_3, tc_4, tc_5, tc_6, tc_7, tc_8, tc_9, tc_10, tc_11, tc_12, tc_13, tc_14, tc_15, tc_16, tc_17, tc_18, tc_19, tc_20, tc_21, tc_22, tc_23, tc_24, tc_25, tc_26, tc_27, tc_28, tc_29, tc_30, tc_31, tc_32, lcl_none, lcl_int, lcl_ref, lcl_null, lcl_long, okR_nil, okR_int, okR_ref, okR_null, okR_long, pushR_some, pushR_none, va_rf_some, va_rf_none, true_and, and_true, true_implies, false_implies, not_true_eq_false, not_false_eq_true, implies_true, bI_eq0, bI_eq1, bI_01, Classical.not_not, or_em, false_and, and_false, hS3.1, hS3.2.1, hS3.2.2.1, hS3.2.2.2.1, kT_0, kT_1, kT_2, kT_15, kT_16, kT_17, kT_18, kT_19, kT_80, kT_81, kT_82, kT_89, kT_90, kT_91, kT_92, kT_93, kT_94, kT_95, kT_96, kT_97, kT_98, kT_99, kT_100, kT_101, nT_2, nT_16, nT_17, nT_19, nT_81, nT_82, nT_90, nT_91, nT_94, nT_95, nT_97, nT_98, nT_100, nT_101, rT_0_0, rT_0_3, rT_0_4, rT_0_5, rT_0_6, rT_0_7, rT_0_8, rT_0_9, rT_0_10, rT_1_0, rT_15_0, rT_15_1, rT_18_0, rT_80_0, rT_80_1, rT_89_0, rT_89_1, rT_93_6, rT_93_7, rT_96_0, rT_96_1, rT_99_0, rT_99_1, chS1, chK, chR7, chK7, chN7, chR8, chK8, chN8, chR9, chK9, chN9, chR10, chK10, chN10, chR11, chK11, chN11, n3, c_worthWith (d := 4) (by decide) hW3 hL haL]
  exact ⟨hS3, hf4, fun c h94 h95 => by rw [hj3 c h94 h95, hj2]⟩
def kN (σ : Sg) (x : Nat) : Nat := if x = 1 then 1000 * (σ 1 2).toNatClampNeg else if x = 2 then 1000 * (σ 1 3).toNatClampNeg else 0
theorem kN_le {L P : Nat} {σ : Sg} (hI : IV L P σ) (x : Nat) : kN σ x ≤ 99000 := by
  obtain ⟨-, -, -, -, ⟨-, -, h2, h3⟩, -⟩ := hI
  have e2 := (toN_of (n := 99) (N := 99) (by decide) (by decide) h2).2
  have e3 := (toN_of (n := 99) (N := 99) (by decide) (by decide) h3).2
  unfold kN
  split
  · omega
  · split <;> omega
theorem C_cost {d L P x : Nat} {b : Bool} {σ : Sg} {M : ab_M} {K : ab_Q} (hd : 1 ≤ d) (hS : Sh b M) (hC : RC b M σ) (hI : IV L P σ) (hx : x < 3) : EvD d 113 [.ref 0, .int (nI x)] M K = K (some (.long (lN (kN σ x)))) M := by
  obtain ⟨-, -, -, -, ⟨-, -, h2, h3⟩, -⟩ := hI
  have e2 := toN_of (n := 99) (N := 99) (by decide) (by decide) h2
  have e3 := toN_of (n := 99) (N := 99) (by decide) (by decide) h3
  obtain ⟨⟨-, -, t0, t1, t2, t3⟩, -⟩ := hC
  rw [e2.1] at t2
  rw [e3.1] at t3
  have f2 : (nI (σ 1 2).toNatClampNeg).toInt64 = lN (σ 1 2).toNatClampNeg := nI_l (by omega)
  have f3 : (nI (σ 1 3).toNatClampNeg).toInt64 = lN (σ 1 3).toNatClampNeg := nI_l (by omega)
  have g2 : lN (σ 1 2).toNatClampNeg * 1000 = lN (1000 * (σ 1 2).toNatClampNeg) := by rw [Nat.mul_comm, ← lN_mul]; rfl
  have g3 : lN (σ 1 3).toNatClampNeg * 1000 = lN (1000 * (σ 1 3).toNatClampNeg) := by rw [Nat.mul_comm, ← lN_mul]; rfl
  rw [b_113 hd]
  have : x = 0 ∨ x = 1 ∨ x = 2 := by omega
  have z0 : nI 0 = 0 := by decide
  have z1 : nI 1 = 1 := by decide
  have z2 : nI 2 = 2 := by decide
  rcases this with rfl | rfl | rfl
  · simp +decide only [e_113_0, e_113_1, e_113_2, e_113_5, e_113_6, e_113_9, e_113_12, e_113_13, e_113_16, e_113_17, e_113_18, e_113_19, e_113_20, e_113_23, e_113_24, e_113_27, e_113_30, e_113_31, e_113_34, e_113_35, e_113_38, e_113_39, ↓reduceIte, Int32.reduceAdd, Int32.reduceSub, an_0, an_1, an_2, an_3, an_4, an_5, tc_0, tc_1, tc_2, tc_3, tc_4, tc_5, tc_6, tc_7, tc_8, tc_9, tc_10, tc_11, tc_12, tc_13, tc_14, tc_15, tc_16, tc_17, tc_18, tc_19, tc_20, tc_21, tc_22, tc_23, tc_24, tc_25, tc_26, tc_27, tc_28, tc_29, tc_30, tc_31, tc_32, lcl_none, lcl_int, lcl_ref, lcl_null, lcl_long, okR_nil, okR_int, okR_ref, okR_null, okR_long, pushR_some, pushR_none, va_rf_some, va_rf_none, true_and, and_true, true_implies, false_implies, not_true_eq_false, not_false_eq_true, implies_true, bI_eq0, bI_eq1, bI_01, Classical.not_not, or_em, false_and, and_false, z0]
    rfl
  · simp +decide only [e_113_0, e_113_1, e_113_2, e_113_5, e_113_6, e_113_9, e_113_12, e_113_13, e_113_16, e_113_17, e_113_18, e_113_19, e_113_20, e_113_23, e_113_24, e_113_27, e_113_30, e_113_31, e_113_34, e_113_35, e_113_38, e_113_39, ↓reduceIte, Int32.reduceAdd, Int32.reduceSub, an_0, an_1, an_2, an_3, an_4, an_5, tc_0, tc_1, tc_2, tc_3, tc_4, tc_5, tc_6, tc_7, tc_8, tc_9, tc_10, tc_11, tc_12, tc_13, tc_14, tc_15, tc_16, tc_17, tc_18, tc_19, tc_20, tc_21, tc_22, tc_23, tc_24, tc_25, tc_26, tc_27, tc_28, tc_29, tc_30, tc_31, tc_32, lcl_none, lcl_int, lcl_ref, lcl_null, lcl_long, okR_nil, okR_int, okR_ref, okR_null, okR_long, pushR_some, pushR_none, va_rf_some, va_rf_none, true_and, and_true, true_implies, false_implies, not_true_eq_false, not_false_eq_true, implies_true, bI_eq0, bI_eq1, bI_01, Classical.not_not, or_em, false_and, and_false, hS.1, hS.2.1, hS.2.2.1, hS.2.2.2.1, kT_0, kT_1, kT_2, kT_15, kT_16, kT_17, kT_18, kT_19, kT_80, kT_81, kT_82, kT_89, kT_90, kT_91, kT_92, kT_93, kT_94, kT_95, kT_96, kT_97, kT_98, kT_99, kT_100, kT_101, nT_2, nT_16, nT_17, nT_19, nT_81, nT_82, nT_90, nT_91, nT_94, nT_95, nT_97, nT_98, nT_100, nT_101, rT_0_0, rT_0_3, rT_0_4, rT_0_5, rT_0_6, rT_0_7, rT_0_8, rT_0_9, rT_0_10, rT_1_0, rT_15_0, rT_15_1, rT_18_0, rT_80_0, rT_80_1, rT_89_0, rT_89_1, rT_93_6, rT_93_7, rT_96_0, rT_96_1, rT_99_0, rT_99_1, chS1, chK, chR7, chK7, chN7, chR8, chK8, chN8, chR9, chK9, chN9, chR10, chK10, chN10, chR11, chK11, chN11, z1, t2, f2, g2]
    rfl
  · simp +decide only [e_113_0, e_113_1, e_113_2, e_113_5, e_113_6, e_113_9, e_113_12, e_113_13, e_113_16, e_113_17, e_113_18, e_113_19, e_113_20, e_113_23, e_113_24, e_113_27, e_113_30, e_113_31, e_113_34, e_113_35, e_113_38, e_113_39, ↓reduceIte, Int32.reduceAdd, Int32.reduceSub, an_0, an_1, an_2, an_3, an_4, an_5, tc_0, tc_1, tc_2, tc_3, tc_4, tc_5, tc_6, tc_7, tc_8, tc_9, tc_10, tc_11, tc_12, tc_13, tc_14, tc_15, tc_16, tc_17, tc_18, tc_19, tc_20, tc_21, tc_22, tc_23, tc_24, tc_25, tc_26, tc_27, tc_28, tc_29, tc_30, tc_31, tc_32, lcl_none, lcl_int, lcl_ref, lcl_null, lcl_long, okR_nil, okR_int, okR_ref, okR_null, okR_long, pushR_some, pushR_none, va_rf_some, va_rf_none, true_and, and_true, true_implies, false_implies, not_true_eq_false, not_false_eq_true, implies_true, bI_eq0, bI_eq1, bI_01, Classical.not_not, or_em, false_and, and_false, hS.1, hS.2.1, hS.2.2.1, hS.2.2.2.1, kT_0, kT_1, kT_2, kT_15, kT_16, kT_17, kT_18, kT_19, kT_80, kT_81, kT_82, kT_89, kT_90, kT_91, kT_92, kT_93, kT_94, kT_95, kT_96, kT_97, kT_98, kT_99, kT_100, kT_101, nT_2, nT_16, nT_17, nT_19, nT_81, nT_82, nT_90, nT_91, nT_94, nT_95, nT_97, nT_98, nT_100, nT_101, rT_0_0, rT_0_3, rT_0_4, rT_0_5, rT_0_6, rT_0_7, rT_0_8, rT_0_9, rT_0_10, rT_1_0, rT_15_0, rT_15_1, rT_18_0, rT_80_0, rT_80_1, rT_89_0, rT_89_1, rT_93_6, rT_93_7, rT_96_0, rT_96_1, rT_99_0, rT_99_1, chS1, chK, chR7, chK7, chN7, chR8, chK8, chN8, chR9, chK9, chN9, chR10, chK10, chN10, chR11, chK11, chN11, z2, t3, f3, g3]
    rfl
theorem M_cost {d L P x : Nat} {b : Bool} {σ : Sg} {M : ab_M} {K : ab_Q} (hd : 1 ≤ d) (hS : Sh b M) (hM : RM M σ) (hI : IV L P σ) (hx : x < 3) : EvD d 169 [.ref 102, .int (nI x)] M K = K (some (.int (nI (kN σ x)))) M := by
  obtain ⟨-, -, -, -, ⟨-, -, h2, h3⟩, -⟩ := hI
  have e2 := toN_of (n := 99) (N := 99) (by decide) (by decide) h2
  have e3 := toN_of (n := 99) (N := 99) (by decide) (by decide) h3
  obtain ⟨⟨-, -, t0, t1, t2, t3⟩, -⟩ := hM
  rw [e2.1] at t2
  rw [e3.1] at t3
  have g2 : 1000 * nI (σ 1 2).toNatClampNeg = nI (1000 * (σ 1 2).toNatClampNeg) := pk_mul 1000 _
  have g3 : 1000 * nI (σ 1 3).toNatClampNeg = nI (1000 * (σ 1 3).toNatClampNeg) := pk_mul 1000 _
  rw [b_169 hd]
  have : x = 0 ∨ x = 1 ∨ x = 2 := by omega
  have z0 : nI 0 = 0 := by decide
  have z1 : nI 1 = 1 := by decide
  have z2 : nI 2 = 2 := by decide
  rcases this with rfl | rfl | rfl
  · simp +decide only [e_169_0, e_169_1, e_169_4, e_169_5, e_169_8, e_169_11, e_169_12, e_169_15, e_169_16, e_169_17, e_169_18, e_169_19, e_169_20, ↓reduceIte, Int32.reduceAdd, Int32.reduceSub, an_0, an_1, an_2, an_3, an_4, an_5, tc_0, tc_1, tc_2, tc_3, tc_4, tc_5, tc_6, tc_7, tc_8, tc_9, tc_10, tc_11, tc_12, tc_13, tc_14, tc_15, tc_16, tc_17, tc_18, tc_19, tc_20, tc_21, tc_22, tc_23, tc_24, tc_25, tc_26, tc_27, tc_28, tc_29, tc_30, tc_31, tc_32, lcl_none, lcl_int, lcl_ref, lcl_null, lcl_long, okR_nil, okR_int, okR_ref, okR_null, okR_long, pushR_some, pushR_none, va_rf_some, va_rf_none, true_and, and_true, true_implies, false_implies, not_true_eq_false, not_false_eq_true, implies_true, bI_eq0, bI_eq1, bI_01, Classical.not_not, or_em, false_and, and_false, z0]
    rfl
  · simp +decide only [e_169_0, e_169_1, e_169_4, e_169_5, e_169_8, e_169_11, e_169_12, e_169_15, e_169_16, e_169_17, e_169_18, e_169_19, e_169_20, ↓reduceIte, Int32.reduceAdd, Int32.reduceSub, an_0, an_1, an_2, an_3, an_4, an_5, tc_0, tc_1, tc_2, tc_3, tc_4, tc_5, tc_6, tc_7, tc_8, tc_9, tc_10, tc_11, tc_12, tc_13, tc_14, tc_15, tc_16, tc_17, tc_18, tc_19, tc_20, tc_21, tc_22, tc_23, tc_24, tc_25, tc_26, tc_27, tc_28, tc_29, tc_30, tc_31, tc_32, lcl_none, lcl_int, lcl_ref, lcl_null, lcl_long, okR_nil, okR_int, okR_ref, okR_null, okR_long, pushR_some, pushR_none, va_rf_some, va_rf_none, true_and, and_true, true_implies, false_implies, not_true_eq_false, not_false_eq_true, implies_true, bI_eq0, bI_eq1, bI_01, Classical.not_not, or_em, false_and, and_false, hS.1, hS.2.1, hS.2.2.1, hS.2.2.2.1, kT_102, kT_103, kT_104, kT_105, kT_106, kT_107, kT_108, kT_109, kT_110, kT_111, kT_112, kT_113, kT_114, kT_115, kT_116, kT_117, kT_118, kT_119, kT_120, nT_103, nT_104, nT_105, nT_106, nT_107, nT_108, nT_109, nT_110, nT_111, nT_112, nT_113, nT_114, nT_115, nT_116, nT_117, nT_118, nT_119, nT_120, rT_102_1, rT_102_12, rT_102_13, rT_102_14, rT_102_18, rT_102_19, rT_102_20, rT_102_21, rT_102_22, rT_102_23, rT_102_25, rT_102_26, rT_102_27, rT_102_30, rT_102_31, rT_102_32, rT_102_33, rT_102_34, z1, t2, g2]
    rfl
  · simp +decide only [e_169_0, e_169_1, e_169_4, e_169_5, e_169_8, e_169_11, e_169_12, e_169_15, e_169_16, e_169_17, e_169_18, e_169_19, e_169_20, ↓reduceIte, Int32.reduceAdd, Int32.reduceSub, an_0, an_1, an_2, an_3, an_4, an_5, tc_0, tc_1, tc_2, tc_3, tc_4, tc_5, tc_6, tc_7, tc_8, tc_9, tc_10, tc_11, tc_12, tc_13, tc_14, tc_15, tc_16, tc_17, tc_18, tc_19, tc_20, tc_21, tc_22, tc_23, tc_24, tc_25, tc_26, tc_27, tc_28, tc_29, tc_30, tc_31, tc_32, lcl_none, lcl_int, lcl_ref, lcl_null, lcl_long, okR_nil, okR_int, okR_ref, okR_null, okR_long, pushR_some, pushR_none, va_rf_some, va_rf_none, true_and, and_true, true_implies, false_implies, not_true_eq_false, not_false_eq_true, implies_true, bI_eq0, bI_eq1, bI_01, Classical.not_not, or_em, false_and, and_false, hS.1, hS.2.1, hS.2.2.1, hS.2.2.2.1, kT_102, kT_103, kT_104, kT_105, kT_106, kT_107, kT_108, kT_109, kT_110, kT_111, kT_112, kT_113, kT_114, kT_115, kT_116, kT_117, kT_118, kT_119, kT_120, nT_103, nT_104, nT_105, nT_106, nT_107, nT_108, nT_109, nT_110, nT_111, nT_112, nT_113, nT_114, nT_115, nT_116, nT_117, nT_118, nT_119, nT_120, rT_102_1, rT_102_12, rT_102_13, rT_102_14, rT_102_18, rT_102_19, rT_102_20, rT_102_21, rT_102_22, rT_102_23, rT_102_25, rT_102_26, rT_102_27, rT_102_30, rT_102_31, rT_102_32, rT_102_33, rT_102_34, z2, t3, g3]
    rfl
/-- the least one of a set -/
def lfN (x : Nat) : Nat := if bitB x 0 then 0 else if bitB x 1 then 1 else if bitB x 2 then 2 else if bitB x 3 then 3 else if bitB x 4 then 4 else 5
theorem lf_C : ∀ x, x < 32 → nI x &&& -nI x = if x = 0 then 0 else nI (2 ^ lfN x) := by decide +kernel
theorem lf_lt : ∀ x, x < 32 → x ≠ 0 → lfN x < 5 ∧ bitB x (lfN x) = true := by decide +kernel
theorem lf_ls : ∀ x, x < 32 → ∀ l, l < lfN x → bitB x l = false := by
  have h : ∀ x, x < 32 → ∀ l, l < 5 → l < lfN x → bitB x l = false := by decide +kernel
  intro x hx l hl
  have h5 : lfN x ≤ 5 := by
    have : ∀ x, x < 32 → lfN x ≤ 5 := by decide +kernel
    exact this x hx
  exact h x hx l (by omega) hl
theorem and_bits : ∀ a, a < 32 → ∀ h, h < 32 → ∀ l, l < 5 → bitB (h &&& a) l = (bitB a l && bitB h l) := by decide +kernel
theorem c_leastC {d x : Nat} {M : ab_M} {K : ab_Q} (hd : 1 ≤ d) (hx : x < 32) : EvD d 102 [.int (nI x)] M K = K (some (.int (if x = 0 then 0 else nI (2 ^ lfN x)))) M := by
  rw [b_102 hd]
  simp +decide only [e_102_0, e_102_1, e_102_2, e_102_3, e_102_4, ↓reduceIte, Int32.reduceAdd, Int32.reduceSub, an_0, an_1, an_2, an_3, an_4, an_5, tc_0, tc_1, tc_2, tc_3, tc_4, tc_5, tc_6, tc_7, tc_8, tc_9, tc_10, tc_11, tc_12, tc_13, tc_14, tc_15, tc_16, tc_17, tc_18, tc_19, tc_20, tc_21, tc_22, tc_23, tc_24, tc_25, tc_26, tc_27, tc_28, tc_29, tc_30, tc_31, tc_32, lcl_none, lcl_int, lcl_ref, lcl_null, lcl_long, okR_nil, okR_int, okR_ref, okR_null, okR_long, pushR_some, pushR_none, va_rf_some, va_rf_none, true_and, and_true, true_implies, false_implies, not_true_eq_false, not_false_eq_true, implies_true, bI_eq0, bI_eq1, bI_01, Classical.not_not, or_em, false_and, and_false, lf_C x hx]
theorem L_lo {L P a j : Nat} {b : Bool} {σ : Sg} {M : ab_M} {K : ab_Q} (hS : Sh b M) (hM : RM M σ) (hI : IV L P σ) (ha : σ 5 10 = nI a) (haL : a < 2 ^ L) : ∀ m l, l + m = L → (∀ i, i < l → bitB (hsN (σ 5) (nI j) &&& a) i = false) → Ev 2 167 2 [some (.ref 102), some (.int (nI j)), some (.int (nI l))] [] M K = K (some (.int (if hsN (σ 5) (nI j) &&& a = 0 then -1 else nI (lfN (hsN (σ 5) (nI j) &&& a))))) M := by
  obtain ⟨hL, hP, iL, iP⟩ := IV_n hI
  have h32 := pow_L hL
  have a1 : mI M 102 16 = nI L := hM.1.1.1.trans iL
  have h10 : mI M 111 10 = nI a := (hM.2.2.1 10 (by decide)).trans ha
  have hxa : hsN (σ 5) (nI j) &&& a < 2 ^ L := Nat.lt_of_le_of_lt Nat.and_le_right haL
  intro m
  induction m with
  | zero =>
    intro l hl hb
    have h1 : (nI L ≤ nI l) = True := by rw [nI_leE (by omega) (by omega)]; exact eq_true (by omega)
    have h0 : hsN (σ 5) (nI j) &&& a = 0 := by
      by_cases e : hsN (σ 5) (nI j) &&& a = 0
      · exact e
      · obtain ⟨h5, hbit⟩ := lf_lt _ (by omega) e
        by_cases g : lfN (hsN (σ 5) (nI j) &&& a) < l
        · rw [hb _ g] at hbit
          exact absurd hbit (by decide)
        · rw [bitB_up hxa (by omega)] at hbit
          exact absurd hbit (by decide)
    rw [e_167_2]
    simp +decide only [e_167_3, e_167_4, e_167_7, e_167_38, e_167_39, ↓reduceIte, Int32.reduceAdd, Int32.reduceSub, an_0, an_1, an_2, an_3, an_4, an_5, tc_0, tc_1, tc_2, tc_3, tc_4, tc_5, tc_6, tc_7, tc_8, tc_9, tc_10, tc_11, tc_12, tc_13, tc_14, tc_15, tc_16, tc_17, tc_18, tc_19, tc_20, tc_21, tc_22, tc_23, tc_24, tc_25, tc_26, tc_27, tc_28, tc_29, tc_30, tc_31, tc_32, lcl_none, lcl_int, lcl_ref, lcl_null, lcl_long, okR_nil, okR_int, okR_ref, okR_null, okR_long, pushR_some, pushR_none, va_rf_some, va_rf_none, true_and, and_true, true_implies, false_implies, not_true_eq_false, not_false_eq_true, implies_true, bI_eq0, bI_eq1, bI_01, Classical.not_not, or_em, false_and, and_false, hS.1, hS.2.1, hS.2.2.1, hS.2.2.2.1, kT_102, kT_103, kT_104, kT_105, kT_106, kT_107, kT_108, kT_109, kT_110, kT_111, kT_112, kT_113, kT_114, kT_115, kT_116, kT_117, kT_118, kT_119, kT_120, nT_103, nT_104, nT_105, nT_106, nT_107, nT_108, nT_109, nT_110, nT_111, nT_112, nT_113, nT_114, nT_115, nT_116, nT_117, nT_118, nT_119, nT_120, rT_102_1, rT_102_12, rT_102_13, rT_102_14, rT_102_18, rT_102_19, rT_102_20, rT_102_21, rT_102_22, rT_102_23, rT_102_25, rT_102_26, rT_102_27, rT_102_30, rT_102_31, rT_102_32, rT_102_33, rT_102_34, a1, h1, h0]
  | succ m ih =>
    intro l hl hb
    have h1 : (nI L ≤ nI l) = False := by rw [nI_leE (by omega) (by omega)]; exact eq_false (by omega)
    have hbl := hasB_b (x := a) (l := l) (by omega) (by omega)
    have e5 : (5 : Int32) + nI l = nI (5 + l) := nI_add 5 l
    have hcl : (nI (5 + l)).toNatClampNeg = 5 + l := nI_clamp (by omega)
    have hin : inX (nI (5 + l)) 14 = True := eq_true (inX_nI (by decide) (by omega))
    have hh : mI M 111 (5 + l) = σ 5 (5 + l) := hM.2.2.1 (5 + l) (by omega)
    have hab := and_bits a (by omega) _ (hsN_lt (σ 5) (nI j)) l (by omega)
    rw [hs_bit (show l < 5 by omega)] at hab
    rw [e_167_2]
    cases hba : bitB a l with
    | false =>
      rw [hba] at hbl hab
      simp +decide only [e_167_3, e_167_4, e_167_7, e_167_10, e_167_11, e_167_12, e_167_15, e_167_18, e_167_19, e_167_22, e_167_23, e_167_24, e_167_25, e_167_26, e_167_27, e_167_30, e_167_31, e_167_32, e_167_35, ↓reduceIte, Int32.reduceAdd, Int32.reduceSub, an_0, an_1, an_2, an_3, an_4, an_5, tc_0, tc_1, tc_2, tc_3, tc_4, tc_5, tc_6, tc_7, tc_8, tc_9, tc_10, tc_11, tc_12, tc_13, tc_14, tc_15, tc_16, tc_17, tc_18, tc_19, tc_20, tc_21, tc_22, tc_23, tc_24, tc_25, tc_26, tc_27, tc_28, tc_29, tc_30, tc_31, tc_32, lcl_none, lcl_int, lcl_ref, lcl_null, lcl_long, okR_nil, okR_int, okR_ref, okR_null, okR_long, pushR_some, pushR_none, va_rf_some, va_rf_none, true_and, and_true, true_implies, false_implies, not_true_eq_false, not_false_eq_true, implies_true, bI_eq0, bI_eq1, bI_01, Classical.not_not, or_em, false_and, and_false, hS.1, hS.2.1, hS.2.2.1, hS.2.2.2.1, kT_102, kT_103, kT_104, kT_105, kT_106, kT_107, kT_108, kT_109, kT_110, kT_111, kT_112, kT_113, kT_114, kT_115, kT_116, kT_117, kT_118, kT_119, kT_120, nT_103, nT_104, nT_105, nT_106, nT_107, nT_108, nT_109, nT_110, nT_111, nT_112, nT_113, nT_114, nT_115, nT_116, nT_117, nT_118, nT_119, nT_120, rT_102_1, rT_102_12, rT_102_13, rT_102_14, rT_102_18, rT_102_19, rT_102_20, rT_102_21, rT_102_22, rT_102_23, rT_102_25, rT_102_26, rT_102_27, rT_102_30, rT_102_31, rT_102_32, rT_102_33, rT_102_34, a1, h1, c_isAliveM (d := 2) (by decide) hS, h10, hbl, nI_1]
      refine ih (l + 1) (by omega) (fun i hi => ?_)
      by_cases e : i = l
      · rw [e, hab]; rfl
      · exact hb i (by omega)
    | true =>
      rw [hba] at hbl hab
      by_cases hho : σ 5 (5 + l) = nI j
      · have hho' : (σ 5 (5 + l) = nI j) = True := eq_true hho
        rw [decide_eq_true hho] at hab
        have hne : hsN (σ 5) (nI j) &&& a ≠ 0 := by
          intro z
          rw [z] at hab
          have : ∀ l, l < 5 → bitB 0 l = false := by decide
          rw [this l (by omega)] at hab
          exact absurd hab (by decide)
        have hlf : lfN (hsN (σ 5) (nI j) &&& a) = l := by
          obtain ⟨h5, hbit⟩ := lf_lt _ (by omega) hne
          rcases Nat.lt_trichotomy (lfN (hsN (σ 5) (nI j) &&& a)) l with g | g | g
          · rw [hb _ g] at hbit; exact absurd hbit (by decide)
          · exact g
          · rw [lf_ls _ (by omega) l g] at hab; exact absurd hab (by decide)
        simp +decide only [e_167_3, e_167_4, e_167_7, e_167_10, e_167_11, e_167_12, e_167_15, e_167_18, e_167_19, e_167_22, e_167_23, e_167_24, e_167_25, e_167_26, e_167_27, e_167_30, e_167_31, ↓reduceIte, Int32.reduceAdd, Int32.reduceSub, an_0, an_1, an_2, an_3, an_4, an_5, tc_0, tc_1, tc_2, tc_3, tc_4, tc_5, tc_6, tc_7, tc_8, tc_9, tc_10, tc_11, tc_12, tc_13, tc_14, tc_15, tc_16, tc_17, tc_18, tc_19, tc_20, tc_21, tc_22, tc_23, tc_24, tc_25, tc_26, tc_27, tc_28, tc_29, tc_30, tc_31, tc_32, lcl_none, lcl_int, lcl_ref, lcl_null, lcl_long, okR_nil, okR_int, okR_ref, okR_null, okR_long, pushR_some, pushR_none, va_rf_some, va_rf_none, true_and, and_true, true_implies, false_implies, not_true_eq_false, not_false_eq_true, implies_true, bI_eq0, bI_eq1, bI_01, Classical.not_not, or_em, false_and, and_false, hS.1, hS.2.1, hS.2.2.1, hS.2.2.2.1, kT_102, kT_103, kT_104, kT_105, kT_106, kT_107, kT_108, kT_109, kT_110, kT_111, kT_112, kT_113, kT_114, kT_115, kT_116, kT_117, kT_118, kT_119, kT_120, nT_103, nT_104, nT_105, nT_106, nT_107, nT_108, nT_109, nT_110, nT_111, nT_112, nT_113, nT_114, nT_115, nT_116, nT_117, nT_118, nT_119, nT_120, rT_102_1, rT_102_12, rT_102_13, rT_102_14, rT_102_18, rT_102_19, rT_102_20, rT_102_21, rT_102_22, rT_102_23, rT_102_25, rT_102_26, rT_102_27, rT_102_30, rT_102_31, rT_102_32, rT_102_33, rT_102_34, a1, h1, c_isAliveM (d := 2) (by decide) hS, h10, hbl, e5, hcl, hin, hh, hho', if_neg hne, hlf]
      · have hho' : (σ 5 (5 + l) = nI j) = False := eq_false hho
        rw [decide_eq_false hho] at hab
        simp +decide only [e_167_3, e_167_4, e_167_7, e_167_10, e_167_11, e_167_12, e_167_15, e_167_18, e_167_19, e_167_22, e_167_23, e_167_24, e_167_25, e_167_26, e_167_27, e_167_30, e_167_31, e_167_32, e_167_35, ↓reduceIte, Int32.reduceAdd, Int32.reduceSub, an_0, an_1, an_2, an_3, an_4, an_5, tc_0, tc_1, tc_2, tc_3, tc_4, tc_5, tc_6, tc_7, tc_8, tc_9, tc_10, tc_11, tc_12, tc_13, tc_14, tc_15, tc_16, tc_17, tc_18, tc_19, tc_20, tc_21, tc_22, tc_23, tc_24, tc_25, tc_26, tc_27, tc_28, tc_29, tc_30, tc_31, tc_32, lcl_none, lcl_int, lcl_ref, lcl_null, lcl_long, okR_nil, okR_int, okR_ref, okR_null, okR_long, pushR_some, pushR_none, va_rf_some, va_rf_none, true_and, and_true, true_implies, false_implies, not_true_eq_false, not_false_eq_true, implies_true, bI_eq0, bI_eq1, bI_01, Classical.not_not, or_em, false_and, and_false, hS.1, hS.2.1, hS.2.2.1, hS.2.2.2.1, kT_102, kT_103, kT_104, kT_105, kT_106, kT_107, kT_108, kT_109, kT_110, kT_111, kT_112, kT_113, kT_114, kT_115, kT_116, kT_117, kT_118, kT_119, kT_120, nT_103, nT_104, nT_105, nT_106, nT_107, nT_108, nT_109, nT_110, nT_111, nT_112, nT_113, nT_114, nT_115, nT_116, nT_117, nT_118, nT_119, nT_120, rT_102_1, rT_102_12, rT_102_13, rT_102_14, rT_102_18, rT_102_19, rT_102_20, rT_102_21, rT_102_22, rT_102_23, rT_102_25, rT_102_26, rT_102_27, rT_102_30, rT_102_31, rT_102_32, rT_102_33, rT_102_34, a1, h1, c_isAliveM (d := 2) (by decide) hS, h10, hbl, e5, hcl, hin, hh, hho', nI_1]
        refine ih (l + 1) (by omega) (fun i hi => ?_)
        by_cases e : i = l
        · rw [e, hab]; rfl
        · exact hb i (by omega)
theorem c_leastM {d L P a j : Nat} {b : Bool} {σ : Sg} {M : ab_M} {K : ab_Q} (hd : 3 ≤ d) (hS : Sh b M) (hM : RM M σ) (hI : IV L P σ) (ha : σ 5 10 = nI a) (haL : a < 2 ^ L) : EvD d 167 [.ref 102, .int (nI j)] M K = K (some (.int (if hsN (σ 5) (nI j) &&& a = 0 then -1 else nI (lfN (hsN (σ 5) (nI j) &&& a))))) M := by
  rw [b_167 hd]
  have h := L_lo (K := K) (j := j) hS hM hI ha haL L 0 (by omega) (fun i hi => absurd hi (Nat.not_lt_zero i))
  simp +decide only [e_167_0, e_167_1, ↓reduceIte, Int32.reduceAdd, Int32.reduceSub, an_0, an_1, an_2, an_3, an_4, an_5, tc_0, tc_1, tc_2, tc_3, tc_4, tc_5, tc_6, tc_7, tc_8, tc_9, tc_10, tc_11, tc_12, tc_13, tc_14, tc_15, tc_16, tc_17, tc_18, tc_19, tc_20, tc_21, tc_22, tc_23, tc_24, tc_25, tc_26, tc_27, tc_28, tc_29, tc_30, tc_31, tc_32, lcl_none, lcl_int, lcl_ref, lcl_null, lcl_long, okR_nil, okR_int, okR_ref, okR_null, okR_long, pushR_some, pushR_none, va_rf_some, va_rf_none, true_and, and_true, true_implies, false_implies, not_true_eq_false, not_false_eq_true, implies_true, bI_eq0, bI_eq1, bI_01, Classical.not_not, or_em, false_and, and_false]
  exact h
