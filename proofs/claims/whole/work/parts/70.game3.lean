/-! game: the class's loops -/
theorem c_put {d a b : Nat} {b0 : Bool} {v w : Int64} {M : ab_M} {K : ab_Q} (hd : 1 ≤ d) (hS : Sh b0 M) (ha : a < 3) (hb : b < 3) : EvD d 14 [.ref 99, .int (nI a), .int (nI b), .long v, .long w] M K = K none (wJ (wJ M 100 (a * 3 + b) v) 101 (a * 3 + b) w) := by
  rw [b_14 hd]
  have a0 : (nI a < 0) = False := eq_false (nI_pos (by omega))
  have a0' : (0 ≤ nI a) = True := eq_true (nI_pos' (by omega))
  have b0 : (nI b < 0) = False := eq_false (nI_pos (by omega))
  have b0' : (0 ≤ nI b) = True := eq_true (nI_pos' (by omega))
  have a3 : (3 ≤ nI a) = False := by rw [show (3 : Int32) = nI 3 from rfl, nI_leE (by decide) (by omega)]; exact eq_false (by omega)
  have b3 : (3 ≤ nI b) = False := by rw [show (3 : Int32) = nI 3 from rfl, nI_leE (by decide) (by omega)]; exact eq_false (by omega)
  have ea : nI a * 3 = nI (a * 3) := pk_mul a 3
  have c2 : (nI (a * 3 + b)).toNatClampNeg = a * 3 + b := nI_clamp (by omega)
  have n2 : inX (nI (a * 3 + b)) 9 = True := eq_true (inX_nI (by decide) (by omega))
  simp +decide only [e_14_0, e_14_1, e_14_4, e_14_5, e_14_6, e_14_9, e_14_10, e_14_13, e_14_14, e_14_15, e_14_18, e_14_19, e_14_22, e_14_23, e_14_24, e_14_25, e_14_26, e_14_27, e_14_28, e_14_29, e_14_30, e_14_33, e_14_34, e_14_35, e_14_36, e_14_37, e_14_38, e_14_40, e_14_41, ↓reduceIte, Int32.reduceAdd, Int32.reduceSub, an_0, an_1, an_2, an_3, an_4, an_5, tc_0, tc_1, tc_2, tc_3, tc_4, tc_5, tc_6, tc_7, tc_8, tc_9, tc_10, tc_11, tc_12, tc_13, tc_14, tc_15, tc_16, tc_17, tc_18, tc_19, tc_20, tc_21, tc_22, tc_23, tc_24, tc_25, tc_26, tc_27, tc_28, tc_29, tc_30, tc_31, tc_32, lcl_none, lcl_int, lcl_ref, lcl_null, lcl_long, okR_nil, okR_int, okR_ref, okR_null, okR_long, pushR_some, pushR_none, va_rf_some, va_rf_none, true_and, and_true, true_implies, false_implies, not_true_eq_false, not_false_eq_true, implies_true, bI_eq0, bI_eq1, bI_01, Classical.not_not, or_em, false_and, and_false, hS.1, hS.2.1, hS.2.2.1, hS.2.2.2.1, kT_0, kT_1, kT_2, kT_15, kT_16, kT_17, kT_18, kT_19, kT_80, kT_81, kT_82, kT_89, kT_90, kT_91, kT_92, kT_93, kT_94, kT_95, kT_96, kT_97, kT_98, kT_99, kT_100, kT_101, nT_2, nT_16, nT_17, nT_19, nT_81, nT_82, nT_90, nT_91, nT_94, nT_95, nT_97, nT_98, nT_100, nT_101, rT_0_0, rT_0_3, rT_0_4, rT_0_5, rT_0_6, rT_0_7, rT_0_8, rT_0_9, rT_0_10, rT_1_0, rT_15_0, rT_15_1, rT_18_0, rT_80_0, rT_80_1, rT_89_0, rT_89_1, rT_93_6, rT_93_7, rT_96_0, rT_96_1, rT_99_0, rT_99_1, mI_wI, mI_wJ, mI_wR, mJ_wI, mJ_wJ, mJ_wR, mR_wI, mR_wJ, mR_wR, mK_wI, mK_wJ, mK_wR, mN_wI, mN_wJ, mN_wR, mZ_wI, mZ_wJ, mZ_wR, a0, a0', b0, b0', a3, b3, ea, nI_add, c2, n2]
theorem c_gby {d a : Nat} {v : Int32} {M : ab_M} {K : ab_Q} (hd : 1 ≤ d) (ha : a < 3) : EvD d 111 [.int (nI a), .int v] M K = K (some (.int (if a = 1 then v else 0))) M := by
  rw [b_111 hd]
  have z0 : nI 0 = 0 := by decide
  have z1 : nI 1 = 1 := by decide
  have z2 : nI 2 = 2 := by decide
  have : a = 0 ∨ a = 1 ∨ a = 2 := by omega
  rcases this with rfl | rfl | rfl <;> simp +decide only [e_111_0, e_111_1, e_111_2, e_111_5, e_111_6, e_111_9, e_111_10, ↓reduceIte, Int32.reduceAdd, Int32.reduceSub, an_0, an_1, an_2, an_3, an_4, an_5, tc_0, tc_1, tc_2, tc_3, tc_4, tc_5, tc_6, tc_7, tc_8, tc_9, tc_10, tc_11, tc_12, tc_13, tc_14, tc_15, tc_16, tc_17, tc_18, tc_19, tc_20, tc_21, tc_22, tc_23, tc_24, tc_25, tc_26, tc_27, tc_28, tc_29, tc_30, tc_31, tc_32, lcl_none, lcl_int, lcl_ref, lcl_null, lcl_long, okR_nil, okR_int, okR_ref, okR_null, okR_long, pushR_some, pushR_none, va_rf_some, va_rf_none, true_and, and_true, true_implies, false_implies, not_true_eq_false, not_false_eq_true, implies_true, bI_eq0, bI_eq1, bI_01, Classical.not_not, or_em, false_and, and_false, z0, z1, z2]
theorem c_hby {d a : Nat} {v : Int32} {M : ab_M} {K : ab_Q} (hd : 1 ≤ d) (ha : a < 3) : EvD d 112 [.int (nI a), .int v] M K = K (some (.int (if a = 2 then v else 0))) M := by
  rw [b_112 hd]
  have z0 : nI 0 = 0 := by decide
  have z1 : nI 1 = 1 := by decide
  have z2 : nI 2 = 2 := by decide
  have : a = 0 ∨ a = 1 ∨ a = 2 := by omega
  rcases this with rfl | rfl | rfl <;> simp +decide only [e_112_0, e_112_1, e_112_2, e_112_5, e_112_6, e_112_9, e_112_10, ↓reduceIte, Int32.reduceAdd, Int32.reduceSub, an_0, an_1, an_2, an_3, an_4, an_5, tc_0, tc_1, tc_2, tc_3, tc_4, tc_5, tc_6, tc_7, tc_8, tc_9, tc_10, tc_11, tc_12, tc_13, tc_14, tc_15, tc_16, tc_17, tc_18, tc_19, tc_20, tc_21, tc_22, tc_23, tc_24, tc_25, tc_26, tc_27, tc_28, tc_29, tc_30, tc_31, tc_32, lcl_none, lcl_int, lcl_ref, lcl_null, lcl_long, okR_nil, okR_int, okR_ref, okR_null, okR_long, pushR_some, pushR_none, va_rf_some, va_rf_none, true_and, and_true, true_implies, false_implies, not_true_eq_false, not_false_eq_true, implies_true, bI_eq0, bI_eq1, bI_01, Classical.not_not, or_em, false_and, and_false, z0, z1, z2]
def gdI (σ : Sg) (x y a b : Nat) : Int32 := (σ 5 11 ||| (if a = 1 then nI (2 ^ x) else 0)) ||| (if b = 1 then nI (2 ^ y) else 0)
def hmI (σ : Sg) (x y a b : Nat) : Int32 := (σ 5 12 ||| (if a = 2 then nI (2 ^ y) else 0)) ||| (if b = 2 then nI (2 ^ x) else 0)
def guN (σ : Sg) (L P j x y n al a b : Nat) : Nat := wH σ L P j (gdI σ x y a b) (hmI σ x y a b) n al
def CTp (M : ab_M) (u v k k2 : Nat → Nat → Nat) (N : Nat) : Prop := ∀ p, p < N → mJ M 100 p = lN (u (p / 3) (p % 3)) - lN (k (p / 3) (p % 3)) ∧ mJ M 101 p = lN (v (p / 3) (p % 3)) - lN (k2 (p / 3) (p % 3))
theorem L_gb {L P s t n al x y a : Nat} {i : Int32} {b0 : Bool} {σ : Sg} {M0 : ab_M} {Q : ab_Q} (hC0 : RC b0 M0 σ) (hI : IV L P σ) (hal : σ 5 10 = nI al) (haL : al < 2 ^ L) (hs : s < P) (ht : t < P) (hn : n ≤ 20) (ha : a < 3) (hQ : ∀ M1 x9 x10, Sh b0 M1 → (∀ c, c ≠ 93 → mI M1 c = mI M0 c) → CTp M1 (guN σ L P s x y n al) (guN σ L P t x y n al) (fun a _ => kN σ a) (fun _ b => kN σ b) (3 * a + 3) → Ev 5 92 214 [some (.ref 0), some (.int (nI s)), some (.int (nI t)), some (.int (nI n)), some (.int i), some (.int (nI (2 ^ x))), some (.int (nI (2 ^ y))), some (.int (nI a)), some (.int 3), x9, x10] [] M1 Q) : ∀ m b M x9 x10, b + m = 3 → Sh b0 M → (∀ c, c ≠ 93 → mI M c = mI M0 c) → CTp M (guN σ L P s x y n al) (guN σ L P t x y n al) (fun a _ => kN σ a) (fun _ b => kN σ b) (3 * a + b) → Ev 5 92 107 [some (.ref 0), some (.int (nI s)), some (.int (nI t)), some (.int (nI n)), some (.int i), some (.int (nI (2 ^ x))), some (.int (nI (2 ^ y))), some (.int (nI a)), some (.int (nI b)), x9, x10] [] M Q := by
  intro m
  induction m with
  | zero =>
    intro b M x9 x10 hb hS hf hc
    have h1 : (3 ≤ nI b) = True := by rw [show b = 3 by omega]; exact eq_true (by decide)
    rw [e_92_107]
    simp +decide only [e_92_109, e_92_110, ↓reduceIte, Int32.reduceAdd, Int32.reduceSub, an_0, an_1, an_2, an_3, an_4, an_5, tc_0, tc_1, tc_2, tc_3, tc_4, tc_5, tc_6, tc_7, tc_8, tc_9, tc_10, tc_11, tc_12, tc_13, tc_14, tc_15, tc_16, tc_17, tc_18, tc_19, tc_20, tc_21, tc_22, tc_23, tc_24, tc_25, tc_26, tc_27, tc_28, tc_29, tc_30, tc_31, tc_32, lcl_none, lcl_int, lcl_ref, lcl_null, lcl_long, okR_nil, okR_int, okR_ref, okR_null, okR_long, pushR_some, pushR_none, va_rf_some, va_rf_none, true_and, and_true, true_implies, false_implies, not_true_eq_false, not_false_eq_true, implies_true, bI_eq0, bI_eq1, bI_01, Classical.not_not, or_em, false_and, and_false, h1]
    rw [show b = 3 by omega] at hc ⊢
    exact hQ M _ _ hS hf hc
  | succ m ih =>
    intro b M x9 x10 hb hS hf hc
    have hC := RC_93 hC0 hf
    have h1 : (3 ≤ nI b) = False := by rw [show (3 : Int32) = nI 3 from rfl, nI_leE (by decide) (by omega)]; exact eq_false (by omega)
    have n4 : mI M 15 3 = σ 5 11 := hC.2.2.1.2.2.2.1
    have n5 : mI M 15 4 = σ 5 12 := hC.2.2.1.2.2.2.2.1
    have eg : (σ 5 11 ||| (if a = 1 then nI (2 ^ x) else 0)) ||| (if b = 1 then nI (2 ^ y) else 0) = gdI σ x y a b := rfl
    have eh : (σ 5 12 ||| (if a = 2 then nI (2 ^ y) else 0)) ||| (if b = 2 then nI (2 ^ x) else 0) = hmI σ x y a b := rfl
    rw [e_92_107]
    simp +decide only [e_92_109, e_92_110, e_92_113, e_92_114, e_92_117, e_92_120, e_92_122, e_92_124, e_92_127, e_92_128, e_92_130, e_92_132, e_92_135, e_92_136, e_92_138, e_92_139, e_92_142, e_92_145, e_92_147, e_92_149, e_92_152, e_92_153, e_92_155, e_92_157, e_92_160, e_92_161, e_92_163, e_92_164, e_92_167, e_92_169, e_92_171, e_92_172, e_92_173, e_92_175, e_92_177, e_92_178, ↓reduceIte, Int32.reduceAdd, Int32.reduceSub, an_0, an_1, an_2, an_3, an_4, an_5, tc_0, tc_1, tc_2, tc_3, tc_4, tc_5, tc_6, tc_7, tc_8, tc_9, tc_10, tc_11, tc_12, tc_13, tc_14, tc_15, tc_16, tc_17, tc_18, tc_19, tc_20, tc_21, tc_22, tc_23, tc_24, tc_25, tc_26, tc_27, tc_28, tc_29, tc_30, tc_31, tc_32, lcl_none, lcl_int, lcl_ref, lcl_null, lcl_long, okR_nil, okR_int, okR_ref, okR_null, okR_long, pushR_some, pushR_none, va_rf_some, va_rf_none, true_and, and_true, true_implies, false_implies, not_true_eq_false, not_false_eq_true, implies_true, bI_eq0, bI_eq1, bI_01, Classical.not_not, or_em, false_and, and_false, hS.1, hS.2.1, hS.2.2.1, hS.2.2.2.1, kT_0, kT_1, kT_2, kT_15, kT_16, kT_17, kT_18, kT_19, kT_80, kT_81, kT_82, kT_89, kT_90, kT_91, kT_92, kT_93, kT_94, kT_95, kT_96, kT_97, kT_98, kT_99, kT_100, kT_101, nT_2, nT_16, nT_17, nT_19, nT_81, nT_82, nT_90, nT_91, nT_94, nT_95, nT_97, nT_98, nT_100, nT_101, rT_0_0, rT_0_3, rT_0_4, rT_0_5, rT_0_6, rT_0_7, rT_0_8, rT_0_9, rT_0_10, rT_1_0, rT_15_0, rT_15_1, rT_18_0, rT_80_0, rT_80_1, rT_89_0, rT_89_1, rT_93_6, rT_93_7, rT_96_0, rT_96_1, rT_99_0, rT_99_1, h1, n4, n5, c_gby (d := 5) (by decide) ha, c_gby (d := 5) (by decide) (show b < 3 by omega), c_hby (d := 5) (by decide) ha, c_hby (d := 5) (by decide) (show b < 3 by omega), eg, eh]
    refine EvD_mono (C_wbs hS hC hI hal haL hs hn) ?_
    rintro r M1 ⟨rfl, hS1, hf1, hj1⟩
    have hC1 : RC b0 M1 σ := RC_93 hC hf1
    simp +decide only [e_92_181, e_92_182, e_92_184, e_92_187, e_92_188, e_92_189, e_92_190, e_92_192, e_92_194, e_92_195, ↓reduceIte, Int32.reduceAdd, Int32.reduceSub, an_0, an_1, an_2, an_3, an_4, an_5, tc_0, tc_1, tc_2, tc_3, tc_4, tc_5, tc_6, tc_7, tc_8, tc_9, tc_10, tc_11, tc_12, tc_13, tc_14, tc_15, tc_16, tc_17, tc_18, tc_19, tc_20, tc_21, tc_22, tc_23, tc_24, tc_25, tc_26, tc_27, tc_28, tc_29, tc_30, tc_31, tc_32, lcl_none, lcl_int, lcl_ref, lcl_null, lcl_long, okR_nil, okR_int, okR_ref, okR_null, okR_long, pushR_some, pushR_none, va_rf_some, va_rf_none, true_and, and_true, true_implies, false_implies, not_true_eq_false, not_false_eq_true, implies_true, bI_eq0, bI_eq1, bI_01, Classical.not_not, or_em, false_and, and_false, hS1.1, hS1.2.1, hS1.2.2.1, kT_0, kT_1, kT_2, kT_15, kT_16, kT_17, kT_18, kT_19, kT_80, kT_81, kT_82, kT_89, kT_90, kT_91, kT_92, kT_93, kT_94, kT_95, kT_96, kT_97, kT_98, kT_99, kT_100, kT_101, nT_2, nT_16, nT_17, nT_19, nT_81, nT_82, nT_90, nT_91, nT_94, nT_95, nT_97, nT_98, nT_100, nT_101, rT_0_0, rT_0_3, rT_0_4, rT_0_5, rT_0_6, rT_0_7, rT_0_8, rT_0_9, rT_0_10, rT_1_0, rT_15_0, rT_15_1, rT_18_0, rT_80_0, rT_80_1, rT_89_0, rT_89_1, rT_93_6, rT_93_7, rT_96_0, rT_96_1, rT_99_0, rT_99_1, C_cost (d := 5) (by decide) hS1 hC1 hI ha]
    refine EvD_mono (C_wbs hS1 hC1 hI hal haL ht hn) ?_
    rintro r M2 ⟨rfl, hS2, hf2, hj2⟩
    have hC2 : RC b0 M2 σ := RC_93 hC1 hf2
    simp +decide only [e_92_198, e_92_199, e_92_201, e_92_204, e_92_205, e_92_208, e_92_211, ↓reduceIte, Int32.reduceAdd, Int32.reduceSub, an_0, an_1, an_2, an_3, an_4, an_5, tc_0, tc_1, tc_2, tc_3, tc_4, tc_5, tc_6, tc_7, tc_8, tc_9, tc_10, tc_11, tc_12, tc_13, tc_14, tc_15, tc_16, tc_17, tc_18, tc_19, tc_20, tc_21, tc_22, tc_23, tc_24, tc_25, tc_26, tc_27, tc_28, tc_29, tc_30, tc_31, tc_32, lcl_none, lcl_int, lcl_ref, lcl_null, lcl_long, okR_nil, okR_int, okR_ref, okR_null, okR_long, pushR_some, pushR_none, va_rf_some, va_rf_none, true_and, and_true, true_implies, false_implies, not_true_eq_false, not_false_eq_true, implies_true, bI_eq0, bI_eq1, bI_01, Classical.not_not, or_em, false_and, and_false, hS2.1, hS2.2.1, hS2.2.2.1, kT_0, kT_1, kT_2, kT_15, kT_16, kT_17, kT_18, kT_19, kT_80, kT_81, kT_82, kT_89, kT_90, kT_91, kT_92, kT_93, kT_94, kT_95, kT_96, kT_97, kT_98, kT_99, kT_100, kT_101, nT_2, nT_16, nT_17, nT_19, nT_81, nT_82, nT_90, nT_91, nT_94, nT_95, nT_97, nT_98, nT_100, nT_101, rT_0_0, rT_0_3, rT_0_4, rT_0_5, rT_0_6, rT_0_7, rT_0_8, rT_0_9, rT_0_10, rT_1_0, rT_15_0, rT_15_1, rT_18_0, rT_80_0, rT_80_1, rT_89_0, rT_89_1, rT_93_6, rT_93_7, rT_96_0, rT_96_1, rT_99_0, rT_99_1, C_cost (d := 5) (by decide) hS2 hC2 hI (show b < 3 by omega), c_put (d := 5) (by decide) hS2 ha (show b < 3 by omega), nI_1]
    refine ih (b + 1) _ _ _ (by omega) hS2 (fun c hc => ?_) (fun p hp => ?_)
    · show mI M2 c = mI M0 c
      rw [hf2 c hc, hf1 c hc, hf c hc]
    · have hj : ∀ c, c ≠ 94 → c ≠ 95 → mJ M2 c = mJ M c := fun c h94 h95 => by rw [hj2 c h94 h95, hj1 c h94 h95]
      rw [mJ_wJ, mJ_wJ, mJ_wJ, mJ_wJ, if_neg (fun z => absurd z.1 (by decide))]
      by_cases e : p = a * 3 + b
      · have d2 : p / 3 = a ∧ p % 3 = b := by omega
        rw [if_pos ⟨rfl, e⟩, if_pos ⟨rfl, e⟩, d2.1, d2.2]
        exact ⟨rfl, rfl⟩
      · rw [if_neg (fun z => e z.2), if_neg (fun z => e z.2), if_neg (fun z => e z.2), hj 100 (by decide) (by decide), hj 101 (by decide) (by decide)]
        exact hc p (by omega)
theorem L_ga {L P s t n al x y : Nat} {i : Int32} {b0 : Bool} {σ : Sg} {M0 : ab_M} {Q : ab_Q} (hC0 : RC b0 M0 σ) (hI : IV L P σ) (hal : σ 5 10 = nI al) (haL : al < 2 ^ L) (hs : s < P) (ht : t < P) (hn : n ≤ 20) (hQ : ∀ M1 x8 x9 x10, Sh b0 M1 → (∀ c, c ≠ 93 → mI M1 c = mI M0 c) → CTp M1 (guN σ L P s x y n al) (guN σ L P t x y n al) (fun a _ => kN σ a) (fun _ b => kN σ b) 9 → Ev 5 92 220 [some (.ref 0), some (.int (nI s)), some (.int (nI t)), some (.int (nI n)), some (.int i), some (.int (nI (2 ^ x))), some (.int (nI (2 ^ y))), some (.int 3), x8, x9, x10] [] M1 Q) : ∀ m a M x8 x9 x10, a + m = 3 → Sh b0 M → (∀ c, c ≠ 93 → mI M c = mI M0 c) → CTp M (guN σ L P s x y n al) (guN σ L P t x y n al) (fun a _ => kN σ a) (fun _ b => kN σ b) (3 * a) → Ev 5 92 98 [some (.ref 0), some (.int (nI s)), some (.int (nI t)), some (.int (nI n)), some (.int i), some (.int (nI (2 ^ x))), some (.int (nI (2 ^ y))), some (.int (nI a)), x8, x9, x10] [] M Q := by
  intro m
  induction m with
  | zero =>
    intro a M x8 x9 x10 hb hS hf hc
    have h1 : (3 ≤ nI a) = True := by rw [show a = 3 by omega]; exact eq_true (by decide)
    rw [e_92_98]
    simp +decide only [e_92_100, e_92_101, ↓reduceIte, Int32.reduceAdd, Int32.reduceSub, an_0, an_1, an_2, an_3, an_4, an_5, tc_0, tc_1, tc_2, tc_3, tc_4, tc_5, tc_6, tc_7, tc_8, tc_9, tc_10, tc_11, tc_12, tc_13, tc_14, tc_15, tc_16, tc_17, tc_18, tc_19, tc_20, tc_21, tc_22, tc_23, tc_24, tc_25, tc_26, tc_27, tc_28, tc_29, tc_30, tc_31, tc_32, lcl_none, lcl_int, lcl_ref, lcl_null, lcl_long, okR_nil, okR_int, okR_ref, okR_null, okR_long, pushR_some, pushR_none, va_rf_some, va_rf_none, true_and, and_true, true_implies, false_implies, not_true_eq_false, not_false_eq_true, implies_true, bI_eq0, bI_eq1, bI_01, Classical.not_not, or_em, false_and, and_false, h1]
    rw [show a = 3 by omega] at hc ⊢
    exact hQ M _ _ _ hS hf hc
  | succ m ih =>
    intro a M x8 x9 x10 hb hS hf hc
    have h1 : (3 ≤ nI a) = False := by rw [show (3 : Int32) = nI 3 from rfl, nI_leE (by decide) (by omega)]; exact eq_false (by omega)
    rw [e_92_98]
    simp +decide only [e_92_100, e_92_101, e_92_104, e_92_105, ↓reduceIte, Int32.reduceAdd, Int32.reduceSub, an_0, an_1, an_2, an_3, an_4, an_5, tc_0, tc_1, tc_2, tc_3, tc_4, tc_5, tc_6, tc_7, tc_8, tc_9, tc_10, tc_11, tc_12, tc_13, tc_14, tc_15, tc_16, tc_17, tc_18, tc_19, tc_20, tc_21, tc_22, tc_23, tc_24, tc_25, tc_26, tc_27, tc_28, tc_29, tc_30, tc_31, tc_32, lcl_none, lcl_int, lcl_ref, lcl_null, lcl_long, okR_nil, okR_int, okR_ref, okR_null, okR_long, pushR_some, pushR_none, va_rf_some, va_rf_none, true_and, and_true, true_implies, false_implies, not_true_eq_false, not_false_eq_true, implies_true, bI_eq0, bI_eq1, bI_01, Classical.not_not, or_em, false_and, and_false, h1]
    refine L_gb (M0 := M0) hC0 hI hal haL hs ht hn (show a < 3 by omega) (fun M1 x9 x10 hS1 hf1 hc1 => ?_) 3 0 M _ _ (by omega) hS hf hc
    simp +decide only [e_92_214, e_92_217, ↓reduceIte, Int32.reduceAdd, Int32.reduceSub, an_0, an_1, an_2, an_3, an_4, an_5, tc_0, tc_1, tc_2, tc_3, tc_4, tc_5, tc_6, tc_7, tc_8, tc_9, tc_10, tc_11, tc_12, tc_13, tc_14, tc_15, tc_16, tc_17, tc_18, tc_19, tc_20, tc_21, tc_22, tc_23, tc_24, tc_25, tc_26, tc_27, tc_28, tc_29, tc_30, tc_31, tc_32, lcl_none, lcl_int, lcl_ref, lcl_null, lcl_long, okR_nil, okR_int, okR_ref, okR_null, okR_long, pushR_some, pushR_none, va_rf_some, va_rf_none, true_and, and_true, true_implies, false_implies, not_true_eq_false, not_false_eq_true, implies_true, bI_eq0, bI_eq1, bI_01, Classical.not_not, or_em, false_and, and_false, nI_1]
    exact ih (a + 1) M1 _ _ _ (by omega) hS1 hf1 hc1
theorem C_game {L P s t n al : Nat} {i : Int32} {b0 : Bool} {σ : Sg} {M : ab_M} (hS : Sh b0 M) (hC : RC b0 M σ) (hI : IV L P σ) (hal : σ 5 10 = nI al) (haL : al < 2 ^ L) (hs : s < P) (ht : t < P) (hst : s ≠ t) (hn1 : 1 ≤ n) (hn : n ≤ 20) (h1 : hsN (σ 5) (nI s) &&& al ≠ 0) (h2 : hsN (σ 5) (nI t) &&& al ≠ 0) : EvD 20 92 [.ref 0, .int (nI s), .int (nI t), .int (nI n), .int i] M (fun r M1 => r = some (.int (if i = -1 then nI (cnB (fun p => rsB (xI (guN σ L P s (lfN (hsN (σ 5) (nI s) &&& al)) (lfN (hsN (σ 5) (nI t) &&& al)) n al) (fun a _ => kN σ a)) (xI (guN σ L P t (lfN (hsN (σ 5) (nI s) &&& al)) (lfN (hsN (σ 5) (nI t) &&& al)) n al) (fun _ b => kN σ b)) (p / 3) (p % 3) 3) 9) else seP (fun p => rsB (xI (guN σ L P s (lfN (hsN (σ 5) (nI s) &&& al)) (lfN (hsN (σ 5) (nI t) &&& al)) n al) (fun a _ => kN σ a)) (xI (guN σ L P t (lfN (hsN (σ 5) (nI s) &&& al)) (lfN (hsN (σ 5) (nI t) &&& al)) n al) (fun _ b => kN σ b)) (p / 3) (p % 3) 3) i 9)) ∧ Sh b0 M1 ∧ ∀ a, a < 93 ∨ 102 ≤ a → mI M1 a = mI M a) := by
  obtain ⟨hL, hP, iL, iP⟩ := IV_n hI
  have h32 := pow_L hL
  have a2 := hC.1.1.2.1
  have hx : (0 ≤ nI s ∧ nI s < σ 0 1) = True := by rw [iP]; exact eq_true (ix_nI (by omega) hs)
  have hy : (0 ≤ nI t ∧ nI t < σ 0 1) = True := by rw [iP]; exact eq_true (ix_nI (by omega) ht)
  have hne : (nI s = nI t) = False := by rw [nI_eqE (by omega) (by omega)]; exact eq_false hst
  have hnx : (1 ≤ nI n ∧ nI n ≤ 20) = True := eq_true ⟨(nI_leE (a := 1) (by decide) (by omega)).mpr hn1, (nI_leE (b := 20) (by omega) (by decide)).mpr hn⟩
  have n3 : mI M 15 2 = nI al := hC.2.2.1.2.2.1.trans hal
  have hh : ∀ j K, EvD 5 41 [.ref 15, .int (nI j)] M K = K (some (.int (nI (hsN (σ 5) (nI j))))) M := fun j K => c_heldByC (d := 5) (by decide) hS hC.2.2.1.2.1
  have as := and_nI _ (hsN_lt (σ 5) (nI s)) al (by omega)
  have at' := and_nI _ (hsN_lt (σ 5) (nI t)) al (by omega)
  have ls := and_lt32 _ (hsN_lt (σ 5) (nI s)) al (by omega)
  have lt := and_lt32 _ (hsN_lt (σ 5) (nI t)) al (by omega)
  have xs := (lf_lt _ ls h1).1
  have xt := (lf_lt _ lt h2).1
  have es : (if hsN (σ 5) (nI s) &&& al = 0 then (0 : Int32) else nI (2 ^ lfN (hsN (σ 5) (nI s) &&& al))) = nI (2 ^ lfN (hsN (σ 5) (nI s) &&& al)) := if_neg h1
  have et : (if hsN (σ 5) (nI t) &&& al = 0 then (0 : Int32) else nI (2 ^ lfN (hsN (σ 5) (nI t) &&& al))) = nI (2 ^ lfN (hsN (σ 5) (nI t) &&& al)) := if_neg h2
  have p32 : ∀ k, k < 5 → 0 < 2 ^ k ∧ 2 ^ k < 2 ^ 31 := by decide
  have z1 : (nI (2 ^ lfN (hsN (σ 5) (nI s) &&& al)) = 0) = False := by rw [nI_0E (p32 _ xs).2]; exact eq_false (by have := (p32 _ xs).1; omega)
  have z2 : (nI (2 ^ lfN (hsN (σ 5) (nI t) &&& al)) = 0) = False := by rw [nI_0E (p32 _ xt).2]; exact eq_false (by have := (p32 _ xt).1; omega)
  have hls : ∀ K, EvD 5 102 [.int (nI (hsN (σ 5) (nI s) &&& al))] M K = K (some (.int (nI (2 ^ lfN (hsN (σ 5) (nI s) &&& al))))) M := fun K => by rw [c_leastC (d := 5) (by decide) ls, es]
  have hlt : ∀ K, EvD 5 102 [.int (nI (hsN (σ 5) (nI t) &&& al))] M K = K (some (.int (nI (2 ^ lfN (hsN (σ 5) (nI t) &&& al))))) M := fun K => by rw [c_leastC (d := 5) (by decide) lt, et]
  rw [b_92 (by decide)]
  simp +decide only [e_92_0, e_92_1, e_92_4, e_92_5, e_92_8, e_92_11, e_92_12, e_92_15, e_92_16, e_92_19, e_92_22, e_92_23, e_92_24, e_92_27, e_92_29, e_92_30, e_92_31, e_92_34, e_92_37, e_92_39, e_92_40, e_92_41, e_92_44, e_92_45, e_92_48, e_92_49, e_92_52, e_92_55, e_92_56, e_92_59, e_92_61, e_92_62, e_92_65, e_92_66, e_92_69, e_92_70, e_92_73, e_92_76, e_92_77, e_92_80, e_92_82, e_92_84, e_92_87, e_92_89, e_92_92, e_92_94, e_92_95, e_92_96, ↓reduceIte, Int32.reduceAdd, Int32.reduceSub, an_0, an_1, an_2, an_3, an_4, an_5, tc_0, tc_1, tc_2, tc_3, tc_4, tc_5, tc_6, tc_7, tc_8, tc_9, tc_10, tc_11, tc_12, tc_13, tc_14, tc_15, tc_16, tc_17, tc_18, tc_19, tc_20, tc_21, tc_22, tc_23, tc_24, tc_25, tc_26, tc_27, tc_28, tc_29, tc_30, tc_31, tc_32, lcl_none, lcl_int, lcl_ref, lcl_null, lcl_long, okR_nil, okR_int, okR_ref, okR_null, okR_long, pushR_some, pushR_none, va_rf_some, va_rf_none, true_and, and_true, true_implies, false_implies, not_true_eq_false, not_false_eq_true, implies_true, bI_eq0, bI_eq1, bI_01, Classical.not_not, or_em, false_and, and_false, hS.1, hS.2.1, hS.2.2.1, hS.2.2.2.1, kT_0, kT_1, kT_2, kT_15, kT_16, kT_17, kT_18, kT_19, kT_80, kT_81, kT_82, kT_89, kT_90, kT_91, kT_92, kT_93, kT_94, kT_95, kT_96, kT_97, kT_98, kT_99, kT_100, kT_101, nT_2, nT_16, nT_17, nT_19, nT_81, nT_82, nT_90, nT_91, nT_94, nT_95, nT_97, nT_98, nT_100, nT_101, rT_0_0, rT_0_3, rT_0_4, rT_0_5, rT_0_6, rT_0_7, rT_0_8, rT_0_9, rT_0_10, rT_1_0, rT_15_0, rT_15_1, rT_18_0, rT_80_0, rT_80_1, rT_89_0, rT_89_1, rT_93_6, rT_93_7, rT_96_0, rT_96_1, rT_99_0, rT_99_1, chS1, chK, chR7, chK7, chN7, chR8, chK8, chN8, chR9, chK9, chN9, chR10, chK10, chN10, chR11, chK11, chN11, c_hasSub (d := 5) (by decide), c_mayBeTried (d := 5) (by decide), a2, hx, hy, hne, hnx, n3, hh, as, at', hls, hlt, z1, z2]
  generalize hex : lfN (hsN (σ 5) (nI s) &&& al) = x
  generalize hey : lfN (hsN (σ 5) (nI t) &&& al) = y
  refine L_ga (M0 := M) hC hI hal haL hs ht hn (fun M1 x8 x9 x10 hS1 hf1 hc1 => ?_) 3 0 M none none none (by omega) hS (fun _ _ => rfl) (fun p hp => by omega)
  have hu : ∀ a b, guN σ L P s x y n al a b < 2 ^ 30 ∧ guN σ L P t x y n al a b < 2 ^ 30 ∧ (fun a (_ : Nat) => kN σ a) a b < 2 ^ 30 ∧ (fun (_ : Nat) b => kN σ b) a b < 2 ^ 30 := fun a b => ⟨Nat.lt_trans (wH_30 hI hs hn al haL) (by decide), Nat.lt_trans (wH_30 hI ht hn al haL) (by decide), Nat.lt_of_le_of_lt (kN_le hI a) (by decide), Nat.lt_of_le_of_lt (kN_le hI b) (by decide)⟩
  have hfin : ∀ a, a < 93 ∨ 102 ≤ a → mI M1 a = mI M a := fun a ha => hf1 a (by omega)
  have hc2 : CT M1 (guN σ L P s x y n al) (guN σ L P t x y n al) (fun a _ => kN σ a) (fun _ b => kN σ b) := hc1
  by_cases hi : i = -1
  · have hi' : (i = -1) = True := eq_true hi
    have hp : ∀ K, EvD 5 16 [.ref 99] M1 K = K (some (.int (nI (cnB (fun p => rsB (xI (guN σ L P s x y n al) (fun a _ => kN σ a)) (xI (guN σ L P t x y n al) (fun _ b => kN σ b)) (p / 3) (p % 3) 3) 9)))) M1 := fun K => by
      rw [b_16 (by decide)]
      have h := L_rp (K := K) hS1 hc2 hu 9 0 (by omega)
      simp +decide only [e_16_0, e_16_1, e_16_2, e_16_3, ↓reduceIte, Int32.reduceAdd, Int32.reduceSub, an_0, an_1, an_2, an_3, an_4, an_5, tc_0, tc_1, tc_2, tc_3, tc_4, tc_5, tc_6, tc_7, tc_8, tc_9, tc_10, tc_11, tc_12, tc_13, tc_14, tc_15, tc_16, tc_17, tc_18, tc_19, tc_20, tc_21, tc_22, tc_23, tc_24, tc_25, tc_26, tc_27, tc_28, tc_29, tc_30, tc_31, tc_32, lcl_none, lcl_int, lcl_ref, lcl_null, lcl_long, okR_nil, okR_int, okR_ref, okR_null, okR_long, pushR_some, pushR_none, va_rf_some, va_rf_none, true_and, and_true, true_implies, false_implies, not_true_eq_false, not_false_eq_true, implies_true, bI_eq0, bI_eq1, bI_01, Classical.not_not, or_em, false_and, and_false]
      exact h
    simp +decide only [e_92_220, e_92_222, e_92_223, e_92_226, e_92_227, e_92_230, e_92_233, e_92_236, e_92_237, e_92_240, e_92_242, e_92_245, ↓reduceIte, Int32.reduceAdd, Int32.reduceSub, an_0, an_1, an_2, an_3, an_4, an_5, tc_0, tc_1, tc_2, tc_3, tc_4, tc_5, tc_6, tc_7, tc_8, tc_9, tc_10, tc_11, tc_12, tc_13, tc_14, tc_15, tc_16, tc_17, tc_18, tc_19, tc_20, tc_21, tc_22, tc_23, tc_24, tc_25, tc_26, tc_27, tc_28, tc_29, tc_30, tc_31, tc_32, lcl_none, lcl_int, lcl_ref, lcl_null, lcl_long, okR_nil, okR_int, okR_ref, okR_null, okR_long, pushR_some, pushR_none, va_rf_some, va_rf_none, true_and, and_true, true_implies, false_implies, not_true_eq_false, not_false_eq_true, implies_true, bI_eq0, bI_eq1, bI_01, Classical.not_not, or_em, false_and, and_false, hS1.1, hS1.2.1, hS1.2.2.1, kT_0, kT_1, kT_2, kT_15, kT_16, kT_17, kT_18, kT_19, kT_80, kT_81, kT_82, kT_89, kT_90, kT_91, kT_92, kT_93, kT_94, kT_95, kT_96, kT_97, kT_98, kT_99, kT_100, kT_101, nT_2, nT_16, nT_17, nT_19, nT_81, nT_82, nT_90, nT_91, nT_94, nT_95, nT_97, nT_98, nT_100, nT_101, rT_0_0, rT_0_3, rT_0_4, rT_0_5, rT_0_6, rT_0_7, rT_0_8, rT_0_9, rT_0_10, rT_1_0, rT_15_0, rT_15_1, rT_18_0, rT_80_0, rT_80_1, rT_89_0, rT_89_1, rT_93_6, rT_93_7, rT_96_0, rT_96_1, rT_99_0, rT_99_1, hi', hp]
    exact ⟨hS1, hfin⟩
  · have hi' : (i = -1) = False := eq_false hi
    have hp : ∀ K, EvD 5 17 [.ref 99, .int i] M1 K = K (some (.int (seP (fun p => rsB (xI (guN σ L P s x y n al) (fun a _ => kN σ a)) (xI (guN σ L P t x y n al) (fun _ b => kN σ b)) (p / 3) (p % 3) 3) i 9))) M1 := fun K => by
      rw [b_17 (by decide)]
      have h := L_rq (K := K) (i := i) hS1 hc2 hu 9 0 (by omega) rfl
      simp +decide only [e_17_0, e_17_1, e_17_2, e_17_3, ↓reduceIte, Int32.reduceAdd, Int32.reduceSub, an_0, an_1, an_2, an_3, an_4, an_5, tc_0, tc_1, tc_2, tc_3, tc_4, tc_5, tc_6, tc_7, tc_8, tc_9, tc_10, tc_11, tc_12, tc_13, tc_14, tc_15, tc_16, tc_17, tc_18, tc_19, tc_20, tc_21, tc_22, tc_23, tc_24, tc_25, tc_26, tc_27, tc_28, tc_29, tc_30, tc_31, tc_32, lcl_none, lcl_int, lcl_ref, lcl_null, lcl_long, okR_nil, okR_int, okR_ref, okR_null, okR_long, pushR_some, pushR_none, va_rf_some, va_rf_none, true_and, and_true, true_implies, false_implies, not_true_eq_false, not_false_eq_true, implies_true, bI_eq0, bI_eq1, bI_01, Classical.not_not, or_em, false_and, and_false]
      exact h
    simp +decide only [e_92_220, e_92_222, e_92_223, e_92_226, e_92_227, e_92_230, e_92_233, e_92_236, e_92_237, e_92_240, e_92_242, e_92_245, ↓reduceIte, Int32.reduceAdd, Int32.reduceSub, an_0, an_1, an_2, an_3, an_4, an_5, tc_0, tc_1, tc_2, tc_3, tc_4, tc_5, tc_6, tc_7, tc_8, tc_9, tc_10, tc_11, tc_12, tc_13, tc_14, tc_15, tc_16, tc_17, tc_18, tc_19, tc_20, tc_21, tc_22, tc_23, tc_24, tc_25, tc_26, tc_27, tc_28, tc_29, tc_30, tc_31, tc_32, lcl_none, lcl_int, lcl_ref, lcl_null, lcl_long, okR_nil, okR_int, okR_ref, okR_null, okR_long, pushR_some, pushR_none, va_rf_some, va_rf_none, true_and, and_true, true_implies, false_implies, not_true_eq_false, not_false_eq_true, implies_true, bI_eq0, bI_eq1, bI_01, Classical.not_not, or_em, false_and, and_false, hS1.1, hS1.2.1, hS1.2.2.1, kT_0, kT_1, kT_2, kT_15, kT_16, kT_17, kT_18, kT_19, kT_80, kT_81, kT_82, kT_89, kT_90, kT_91, kT_92, kT_93, kT_94, kT_95, kT_96, kT_97, kT_98, kT_99, kT_100, kT_101, nT_2, nT_16, nT_17, nT_19, nT_81, nT_82, nT_90, nT_91, nT_94, nT_95, nT_97, nT_98, nT_100, nT_101, rT_0_0, rT_0_3, rT_0_4, rT_0_5, rT_0_6, rT_0_7, rT_0_8, rT_0_9, rT_0_10, rT_1_0, rT_15_0, rT_15_1, rT_18_0, rT_80_0, rT_80_1, rT_89_0, rT_89_1, rT_93_6, rT_93_7, rT_96_0, rT_96_1, rT_99_0, rT_99_1, hi', hp]
    exact ⟨hS1, hfin⟩
