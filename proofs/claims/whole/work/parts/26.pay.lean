/-! pay -/
def pop5 (x : Nat) : Nat := x % 2 + x / 2 % 2 + x / 4 % 2 + x / 8 % 2 + x / 16 % 2
def hsN (S : Nat → Int32) (s : Int32) : Nat := (if S 5 = s then 1 else 0) + (if S 6 = s then 2 else 0) + (if S 7 = s then 4 else 0) + (if S 8 = s then 8 else 0) + (if S 9 = s then 16 else 0)
def haN (S : Nat → Int32) : Nat := (if S 5 = -1 then 0 else 1) + (if S 6 = -1 then 0 else 2) + (if S 7 = -1 then 0 else 4) + (if S 8 = -1 then 0 else 8) + (if S 9 = -1 then 0 else 16)
theorem hsN_lt (S : Nat → Int32) (s : Int32) : hsN S s < 32 := by
  unfold hsN
  split <;> split <;> split <;> split <;> split <;> decide
theorem haN_lt (S : Nat → Int32) : haN S < 32 := by
  unfold haN
  split <;> split <;> split <;> split <;> split <;> decide
def bcE (x : Int32) : Int32 :=
  let a := x - ((x.toUInt32 >>> (Int32.toUInt32 1 &&& Int32.toUInt32 31)).toInt32 &&& 1431655765)
  let b := (a &&& 858993459) + ((a.toUInt32 >>> (Int32.toUInt32 2 &&& Int32.toUInt32 31)).toInt32 &&& 858993459)
  let c := (b + (b.toUInt32 >>> (Int32.toUInt32 4 &&& Int32.toUInt32 31)).toInt32) &&& 252645135
  let d := c + (c.toUInt32 >>> (Int32.toUInt32 8 &&& Int32.toUInt32 31)).toInt32
  let e := d + (d.toUInt32 >>> (Int32.toUInt32 16 &&& Int32.toUInt32 31)).toInt32
  e &&& 63
theorem bcE_pop : ∀ x, x < 32 → bcE (nI x) = nI (pop5 x) := by decide +kernel
theorem bitsE_pop : ∀ x, x < 32 → bitsE (nI x) = nI (pop5 x) := by decide +kernel
theorem and_nI : ∀ x, x < 32 → ∀ y, y < 32 → nI x &&& nI y = nI (x &&& y) := by decide +kernel
theorem and_lt32 : ∀ x, x < 32 → ∀ y, y < 32 → x &&& y < 32 := by decide +kernel
theorem pop5_le : ∀ x, x < 32 → pop5 x ≤ 5 := by decide +kernel
theorem c_bitCount {d : Nat} {x : Int32} {M : ab_M} {K : ab_Q} (hd : 1 ≤ d) : EvD d 180 [.int x] M K = K (some (.int (bcE x))) M := by
  rw [b_180 hd]
  simp +decide only [e_180_0, e_180_1, e_180_2, e_180_3, e_180_4, e_180_7, e_180_8, e_180_9, e_180_10, e_180_11, e_180_14, e_180_15, e_180_16, e_180_17, e_180_18, e_180_21, e_180_22, e_180_23, e_180_24, e_180_25, e_180_26, e_180_27, e_180_28, e_180_29, e_180_32, e_180_33, e_180_34, e_180_35, e_180_36, e_180_38, e_180_39, e_180_40, e_180_41, e_180_42, e_180_43, e_180_45, e_180_46, e_180_47, e_180_48, e_180_49, e_180_51, e_180_52, ↓reduceIte, Int32.reduceAdd, Int32.reduceSub, an_0, an_1, an_2, an_3, an_4, an_5, tc_0, tc_1, tc_2, tc_3, tc_4, tc_5, tc_6, tc_7, tc_8, tc_9, tc_10, tc_11, tc_12, tc_13, tc_14, tc_15, tc_16, tc_17, tc_18, tc_19, tc_20, tc_21, tc_22, tc_23, tc_24, tc_25, tc_26, tc_27, tc_28, tc_29, tc_30, tc_31, tc_32, lcl_none, lcl_int, lcl_ref, lcl_null, lcl_long, okR_nil, okR_int, okR_ref, okR_null, okR_long, pushR_some, pushR_none, va_rf_some, va_rf_none, true_and, and_true, true_implies, false_implies, not_true_eq_false, not_false_eq_true, implies_true, bI_eq0, bI_eq1, bI_01, Classical.not_not, or_em, false_and, and_false]
  rfl
theorem c_popC {d x : Nat} {M : ab_M} {K : ab_Q} (hd : 1 ≤ d) (hx : x < 32) : EvD d 180 [.int (nI x)] M K = K (some (.int (nI (pop5 x)))) M := by
  rw [c_bitCount hd, bcE_pop x hx]
theorem c_popM {d x : Nat} {M : ab_M} {K : ab_Q} (hd : 1 ≤ d) (hx : x < 32) : EvD d 120 [.int (nI x)] M K = K (some (.int (nI (pop5 x)))) M := by
  rw [c_bits hd, bitsE_pop x hx]
set_option maxRecDepth 100000 in
theorem c_heldByC {d : Nat} {b : Bool} {s : Int32} {S : Nat → Int32} {M : ab_M} {K : ab_Q} (hd : 1 ≤ d) (hS : Sh b M) (hN : ∀ k, k < 5 → mI M 17 k = S (5 + k)) : EvD d 41 [.ref 15, .int s] M K = K (some (.int (nI (hsN S s)))) M := by
  rw [b_41 hd]
  have e0 : mI M 17 0 = S 5 := hN 0 (by decide)
  have e1 : mI M 17 1 = S 6 := hN 1 (by decide)
  have e2 : mI M 17 2 = S 7 := hN 2 (by decide)
  have e3 : mI M 17 3 = S 8 := hN 3 (by decide)
  have e4 : mI M 17 4 = S 9 := hN 4 (by decide)
  by_cases h0 : S 5 = s <;> by_cases h1 : S 6 = s <;> by_cases h2 : S 7 = s <;> by_cases h3 : S 8 = s <;> by_cases h4 : S 9 = s <;> simp +decide only [e_41_0, e_41_1, e_41_2, e_41_3, e_41_4, e_41_5, e_41_6, e_41_9, e_41_10, e_41_13, e_41_14, e_41_15, e_41_16, e_41_19, e_41_20, e_41_21, e_41_22, e_41_23, e_41_24, e_41_25, e_41_28, e_41_31, e_41_32, ↓reduceIte, Int32.reduceAdd, Int32.reduceSub, an_0, an_1, an_2, an_3, an_4, an_5, tc_0, tc_1, tc_2, tc_3, tc_4, tc_5, tc_6, tc_7, tc_8, tc_9, tc_10, tc_11, tc_12, tc_13, tc_14, tc_15, tc_16, tc_17, tc_18, tc_19, tc_20, tc_21, tc_22, tc_23, tc_24, tc_25, tc_26, tc_27, tc_28, tc_29, tc_30, tc_31, tc_32, lcl_none, lcl_int, lcl_ref, lcl_null, lcl_long, okR_nil, okR_int, okR_ref, okR_null, okR_long, pushR_some, pushR_none, va_rf_some, va_rf_none, true_and, and_true, true_implies, false_implies, not_true_eq_false, not_false_eq_true, implies_true, bI_eq0, bI_eq1, bI_01, Classical.not_not, or_em, false_and, and_false, hS.1, hS.2.1, hS.2.2.1, hS.2.2.2.1, kT_0, kT_1, kT_2, kT_15, kT_16, kT_17, kT_18, kT_19, kT_80, kT_81, kT_82, kT_89, kT_90, kT_91, kT_92, kT_93, kT_94, kT_95, kT_96, kT_97, kT_98, kT_99, kT_100, kT_101, nT_2, nT_16, nT_17, nT_19, nT_81, nT_82, nT_90, nT_91, nT_94, nT_95, nT_97, nT_98, nT_100, nT_101, rT_0_0, rT_0_3, rT_0_4, rT_0_5, rT_0_6, rT_0_7, rT_0_8, rT_0_9, rT_0_10, rT_1_0, rT_15_0, rT_15_1, rT_18_0, rT_80_0, rT_80_1, rT_89_0, rT_89_1, rT_93_6, rT_93_7, rT_96_0, rT_96_1, rT_99_0, rT_99_1, e0, e1, e2, e3, e4, h0, h1, h2, h3, h4, hsN] <;> rfl
set_option maxRecDepth 100000 in
theorem c_heldAnyC {d : Nat} {b : Bool} {S : Nat → Int32} {M : ab_M} {K : ab_Q} (hd : 1 ≤ d) (hS : Sh b M) (hN : ∀ k, k < 5 → mI M 17 k = S (5 + k)) : EvD d 42 [.ref 15] M K = K (some (.int (nI (haN S)))) M := by
  rw [b_42 hd]
  have e0 : mI M 17 0 = S 5 := hN 0 (by decide)
  have e1 : mI M 17 1 = S 6 := hN 1 (by decide)
  have e2 : mI M 17 2 = S 7 := hN 2 (by decide)
  have e3 : mI M 17 3 = S 8 := hN 3 (by decide)
  have e4 : mI M 17 4 = S 9 := hN 4 (by decide)
  by_cases h0 : S 5 = -1 <;> by_cases h1 : S 6 = -1 <;> by_cases h2 : S 7 = -1 <;> by_cases h3 : S 8 = -1 <;> by_cases h4 : S 9 = -1 <;> simp +decide only [e_42_0, e_42_1, e_42_2, e_42_3, e_42_4, e_42_5, e_42_6, e_42_9, e_42_10, e_42_13, e_42_14, e_42_15, e_42_16, e_42_19, e_42_20, e_42_21, e_42_22, e_42_23, e_42_24, e_42_25, e_42_28, e_42_31, e_42_32, ↓reduceIte, Int32.reduceAdd, Int32.reduceSub, an_0, an_1, an_2, an_3, an_4, an_5, tc_0, tc_1, tc_2, tc_3, tc_4, tc_5, tc_6, tc_7, tc_8, tc_9, tc_10, tc_11, tc_12, tc_13, tc_14, tc_15, tc_16, tc_17, tc_18, tc_19, tc_20, tc_21, tc_22, tc_23, tc_24, tc_25, tc_26, tc_27, tc_28, tc_29, tc_30, tc_31, tc_32, lcl_none, lcl_int, lcl_ref, lcl_null, lcl_long, okR_nil, okR_int, okR_ref, okR_null, okR_long, pushR_some, pushR_none, va_rf_some, va_rf_none, true_and, and_true, true_implies, false_implies, not_true_eq_false, not_false_eq_true, implies_true, bI_eq0, bI_eq1, bI_01, Classical.not_not, or_em, false_and, and_false, hS.1, hS.2.1, hS.2.2.1, hS.2.2.2.1, kT_0, kT_1, kT_2, kT_15, kT_16, kT_17, kT_18, kT_19, kT_80, kT_81, kT_82, kT_89, kT_90, kT_91, kT_92, kT_93, kT_94, kT_95, kT_96, kT_97, kT_98, kT_99, kT_100, kT_101, nT_2, nT_16, nT_17, nT_19, nT_81, nT_82, nT_90, nT_91, nT_94, nT_95, nT_97, nT_98, nT_100, nT_101, rT_0_0, rT_0_3, rT_0_4, rT_0_5, rT_0_6, rT_0_7, rT_0_8, rT_0_9, rT_0_10, rT_1_0, rT_15_0, rT_15_1, rT_18_0, rT_80_0, rT_80_1, rT_89_0, rT_89_1, rT_93_6, rT_93_7, rT_96_0, rT_96_1, rT_99_0, rT_99_1, e0, e1, e2, e3, e4, h0, h1, h2, h3, h4, haN] <;> rfl
def payI (V T : Int32) (P c h : Nat) : Int32 := if c = 0 then (if P = 0 then 0 else V * T / 10 / nI P) else (if P = 0 then 0 else V * T / 10 / nI P) + nI h * ((V - V * T / 10) / nI c)
theorem nI_0E {n : Nat} (h : n < 2 ^ 31) : (nI n = 0) = (n = 0) := nI_eqE (b := 0) h (by decide)
theorem c_pay {d c P x y : Nat} {T : Int32} {M : ab_M} {K : ab_Q} (hd : 2 ≤ d) (hk : mK M c = 1) (hP : mI M c 6 = nI P) (hP5 : P ≤ 5) (hx : x < 32) (hy : y < 32) : EvD d 12 [.ref c, .int T, .int (nI x), .int (nI y)] M K = K (some (.int (payI (mI M c 1) T P (pop5 y) (pop5 x)))) M := by
  rw [b_12 hd]
  have h5 := pop5_le y hy
  have e1 : (nI (pop5 y) = 0) = (pop5 y = 0) := nI_0E (by omega)
  have e2 : (nI P = 0) = (P = 0) := nI_0E (by omega)
  have e3 : ((10 : Int32) = 0) = False := by decide
  unfold payI
  by_cases g1 : P = 0 <;> by_cases g2 : pop5 y = 0 <;> simp +decide only [e_12_0, e_12_1, e_12_4, e_12_5, e_12_6, e_12_8, e_12_9, e_12_11, e_12_12, e_12_15, e_12_18, e_12_19, e_12_22, e_12_24, e_12_25, e_12_28, e_12_29, e_12_31, e_12_32, e_12_35, e_12_37, e_12_39, e_12_42, e_12_44, e_12_45, e_12_48, e_12_49, e_12_52, e_12_54, e_12_55, e_12_57, e_12_58, e_12_59, e_12_60, e_12_62, e_12_64, ↓reduceIte, Int32.reduceAdd, Int32.reduceSub, an_0, an_1, an_2, an_3, an_4, an_5, tc_0, tc_1, tc_2, tc_3, tc_4, tc_5, tc_6, tc_7, tc_8, tc_9, tc_10, tc_11, tc_12, tc_13, tc_14, tc_15, tc_16, tc_17, tc_18, tc_19, tc_20, tc_21, tc_22, tc_23, tc_24, tc_25, tc_26, tc_27, tc_28, tc_29, tc_30, tc_31, tc_32, lcl_none, lcl_int, lcl_ref, lcl_null, lcl_long, okR_nil, okR_int, okR_ref, okR_null, okR_long, pushR_some, pushR_none, va_rf_some, va_rf_none, true_and, and_true, true_implies, false_implies, not_true_eq_false, not_false_eq_true, implies_true, bI_eq0, bI_eq1, bI_01, Classical.not_not, or_em, false_and, and_false, hk, hP, c_popC (Nat.le_refl 1) hx, c_popC (Nat.le_refl 1) hy, e1, e2, e3, g1, g2]
