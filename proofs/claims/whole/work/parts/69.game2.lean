/-! game: what rests -/
theorem lg_cmp3 {u k u1 k1 : Nat} (hu : u < 2 ^ 30) (hk : k < 2 ^ 30) (hu1 : u1 < 2 ^ 30) (hk1 : k1 < 2 ^ 30) : (lg_cmp (lN u - lN k) (lN u1 - lN k1) ≤ 0) = ((u : Int) - k ≤ (u1 : Int) - k1) := by
  have e1 : (lN u).toInt = u := lN_toInt (by omega)
  have e2 : (lN k).toInt = k := lN_toInt (by omega)
  have e3 : (lN u1).toInt = u1 := lN_toInt (by omega)
  have e4 : (lN k1).toInt = k1 := lN_toInt (by omega)
  rw [lg_cmp_le, Int64.le_iff_toInt_le, Int64.toInt_sub, Int64.toInt_sub, e1, e2, e3, e4, Int.bmod_eq_of_le (by omega) (by omega), Int.bmod_eq_of_le (by omega) (by omega)]
theorem mg_cmp3 {u k u1 k1 : Nat} (hu : u < 2 ^ 30) (hk : k < 2 ^ 30) (hu1 : u1 < 2 ^ 30) (hk1 : k1 < 2 ^ 30) : (nI u - nI k ≤ nI u1 - nI k1) = ((u : Int) - k ≤ (u1 : Int) - k1) := by
  rw [Int32.le_iff_toInt_le, pk_sub_toInt hu hk, pk_sub_toInt hu1 hk1]
def rsB (x y : Nat → Nat → Int) (a b : Nat) : Nat → Bool
  | 0 => true
  | i + 1 => rsB x y a b i && (decide (x i b ≤ x a b) && decide (y a i ≤ y a b))
theorem rsB_f {x y : Nat → Nat → Int} {a b i : Nat} (h : rsB x y a b i = false) : ∀ m, rsB x y a b (i + m) = false := by
  intro m
  induction m with
  | zero => exact h
  | succ m ih => show (rsB x y a b (i + m) && _) = false; rw [ih, Bool.false_and]
/-- what the class's contest holds -/
def CT (M : ab_M) (u v k k2 : Nat → Nat → Nat) : Prop := ∀ p, p < 9 → mJ M 100 p = lN (u (p / 3) (p % 3)) - lN (k (p / 3) (p % 3)) ∧ mJ M 101 p = lN (v (p / 3) (p % 3)) - lN (k2 (p / 3) (p % 3))
def xI (u k : Nat → Nat → Nat) (a b : Nat) : Int := (u a b : Int) - k a b
theorem L_rs {b0 : Bool} {u v k k2 : Nat → Nat → Nat} {a b : Nat} {M : ab_M} {K : ab_Q} (hS : Sh b0 M) (hc : CT M u v k k2) (hu : ∀ a b, u a b < 2 ^ 30 ∧ v a b < 2 ^ 30 ∧ k a b < 2 ^ 30 ∧ k2 a b < 2 ^ 30) (ha : a < 3) (hb : b < 3) : ∀ m i, i + m = 3 → rsB (xI u k) (xI v k2) a b i = true → Ev 0 15 22 [some (.ref 99), some (.int (nI a)), some (.int (nI b)), some (.int (nI i))] [] M K = K (some (.int (b01 (rsB (xI u k) (xI v k2) a b 3)))) M := by
  intro m
  induction m with
  | zero =>
    intro i hi hr
    have h1 : (3 ≤ nI i) = True := by rw [show i = 3 by omega]; exact eq_true (by decide)
    rw [e_15_22]
    simp +decide only [e_15_23, e_15_24, e_15_83, e_15_84, ↓reduceIte, Int32.reduceAdd, Int32.reduceSub, an_0, an_1, an_2, an_3, an_4, an_5, tc_0, tc_1, tc_2, tc_3, tc_4, tc_5, tc_6, tc_7, tc_8, tc_9, tc_10, tc_11, tc_12, tc_13, tc_14, tc_15, tc_16, tc_17, tc_18, tc_19, tc_20, tc_21, tc_22, tc_23, tc_24, tc_25, tc_26, tc_27, tc_28, tc_29, tc_30, tc_31, tc_32, lcl_none, lcl_int, lcl_ref, lcl_null, lcl_long, okR_nil, okR_int, okR_ref, okR_null, okR_long, pushR_some, pushR_none, va_rf_some, va_rf_none, true_and, and_true, true_implies, false_implies, not_true_eq_false, not_false_eq_true, implies_true, bI_eq0, bI_eq1, bI_01, Classical.not_not, or_em, false_and, and_false, h1]
    rw [show i = 3 by omega] at hr
    rw [hr]
    rfl
  | succ m ih =>
    intro i hi hr
    have h1 : (3 ≤ nI i) = False := by rw [show (3 : Int32) = nI 3 from rfl, nI_leE (by decide) (by omega)]; exact eq_false (by omega)
    have ei : nI i * 3 = nI (i * 3) := pk_mul i 3
    have ea : nI a * 3 = nI (a * 3) := pk_mul a 3
    have c1 : (nI (i * 3 + b)).toNatClampNeg = i * 3 + b := nI_clamp (by omega)
    have c2 : (nI (a * 3 + b)).toNatClampNeg = a * 3 + b := nI_clamp (by omega)
    have c3 : (nI (a * 3 + i)).toNatClampNeg = a * 3 + i := nI_clamp (by omega)
    have n1 : inX (nI (i * 3 + b)) 9 = True := eq_true (inX_nI (by decide) (by omega))
    have n2 : inX (nI (a * 3 + b)) 9 = True := eq_true (inX_nI (by decide) (by omega))
    have n3 : inX (nI (a * 3 + i)) 9 = True := eq_true (inX_nI (by decide) (by omega))
    have d1 : (i * 3 + b) / 3 = i ∧ (i * 3 + b) % 3 = b := by omega
    have d2 : (a * 3 + b) / 3 = a ∧ (a * 3 + b) % 3 = b := by omega
    have d3 : (a * 3 + i) / 3 = a ∧ (a * 3 + i) % 3 = i := by omega
    have x1 := (hc (i * 3 + b) (by omega)).1
    have x2 := (hc (a * 3 + b) (by omega)).1
    have y2 := (hc (a * 3 + b) (by omega)).2
    have y3 := (hc (a * 3 + i) (by omega)).2
    rw [d1.1, d1.2] at x1
    rw [d2.1, d2.2] at x2 y2
    rw [d3.1, d3.2] at y3
    have g1 := lg_cmp3 (hu i b).1 (hu i b).2.2.1 (hu a b).1 (hu a b).2.2.1
    have g2 := lg_cmp3 (hu a i).2.1 (hu a i).2.2.2 (hu a b).2.1 (hu a b).2.2.2
    have er : rsB (xI u k) (xI v k2) a b (i + 1) = (rsB (xI u k) (xI v k2) a b i && (decide (xI u k i b ≤ xI u k a b) && decide (xI v k2 a i ≤ xI v k2 a b))) := rfl
    rw [hr, Bool.true_and] at er
    rw [e_15_22]
    by_cases h2 : xI u k i b ≤ xI u k a b
    · have q1 : (0 < lg_cmp (lN (u i b) - lN (k i b)) (lN (u a b) - lN (k a b))) = False := eq_false (Int32.not_lt.mpr (by rw [g1]; exact h2))
      rw [decide_eq_true h2, Bool.true_and] at er
      by_cases h3 : xI v k2 a i ≤ xI v k2 a b
      · have q2 : (lg_cmp (lN (v a i) - lN (k2 a i)) (lN (v a b) - lN (k2 a b)) ≤ 0) = True := by rw [g2]; exact eq_true h3
        rw [decide_eq_true h3] at er
        simp +decide only [e_15_23, e_15_24, e_15_27, e_15_28, e_15_31, e_15_32, e_15_33, e_15_34, e_15_35, e_15_36, e_15_37, e_15_38, e_15_41, e_15_42, e_15_43, e_15_44, e_15_45, e_15_46, e_15_47, e_15_48, e_15_51, e_15_52, e_15_55, e_15_56, e_15_57, e_15_58, e_15_59, e_15_60, e_15_61, e_15_62, e_15_65, e_15_66, e_15_67, e_15_68, e_15_69, e_15_70, e_15_71, e_15_72, e_15_75, e_15_76, e_15_77, e_15_80, ↓reduceIte, Int32.reduceAdd, Int32.reduceSub, an_0, an_1, an_2, an_3, an_4, an_5, tc_0, tc_1, tc_2, tc_3, tc_4, tc_5, tc_6, tc_7, tc_8, tc_9, tc_10, tc_11, tc_12, tc_13, tc_14, tc_15, tc_16, tc_17, tc_18, tc_19, tc_20, tc_21, tc_22, tc_23, tc_24, tc_25, tc_26, tc_27, tc_28, tc_29, tc_30, tc_31, tc_32, lcl_none, lcl_int, lcl_ref, lcl_null, lcl_long, okR_nil, okR_int, okR_ref, okR_null, okR_long, pushR_some, pushR_none, va_rf_some, va_rf_none, true_and, and_true, true_implies, false_implies, not_true_eq_false, not_false_eq_true, implies_true, bI_eq0, bI_eq1, bI_01, Classical.not_not, or_em, false_and, and_false, hS.1, hS.2.1, hS.2.2.1, hS.2.2.2.1, kT_0, kT_1, kT_2, kT_15, kT_16, kT_17, kT_18, kT_19, kT_80, kT_81, kT_82, kT_89, kT_90, kT_91, kT_92, kT_93, kT_94, kT_95, kT_96, kT_97, kT_98, kT_99, kT_100, kT_101, nT_2, nT_16, nT_17, nT_19, nT_81, nT_82, nT_90, nT_91, nT_94, nT_95, nT_97, nT_98, nT_100, nT_101, rT_0_0, rT_0_3, rT_0_4, rT_0_5, rT_0_6, rT_0_7, rT_0_8, rT_0_9, rT_0_10, rT_1_0, rT_15_0, rT_15_1, rT_18_0, rT_80_0, rT_80_1, rT_89_0, rT_89_1, rT_93_6, rT_93_7, rT_96_0, rT_96_1, rT_99_0, rT_99_1, h1, ei, ea, nI_add, c1, c2, c3, n1, n2, n3, x1, x2, y2, y3, q1, q2, nI_1]
        exact ih (i + 1) (by omega) er
      · have q2 : (lg_cmp (lN (v a i) - lN (k2 a i)) (lN (v a b) - lN (k2 a b)) ≤ 0) = False := by rw [g2]; exact eq_false h3
        rw [decide_eq_false h3] at er
        have hz := rsB_f er m
        rw [show i + 1 + m = 3 by omega] at hz
        rw [hz]
        simp +decide only [e_15_23, e_15_24, e_15_27, e_15_28, e_15_31, e_15_32, e_15_33, e_15_34, e_15_35, e_15_36, e_15_37, e_15_38, e_15_41, e_15_42, e_15_43, e_15_44, e_15_45, e_15_46, e_15_47, e_15_48, e_15_51, e_15_52, e_15_55, e_15_56, e_15_57, e_15_58, e_15_59, e_15_60, e_15_61, e_15_62, e_15_65, e_15_66, e_15_67, e_15_68, e_15_69, e_15_70, e_15_71, e_15_72, e_15_75, e_15_76, e_15_77, e_15_80, ↓reduceIte, Int32.reduceAdd, Int32.reduceSub, an_0, an_1, an_2, an_3, an_4, an_5, tc_0, tc_1, tc_2, tc_3, tc_4, tc_5, tc_6, tc_7, tc_8, tc_9, tc_10, tc_11, tc_12, tc_13, tc_14, tc_15, tc_16, tc_17, tc_18, tc_19, tc_20, tc_21, tc_22, tc_23, tc_24, tc_25, tc_26, tc_27, tc_28, tc_29, tc_30, tc_31, tc_32, lcl_none, lcl_int, lcl_ref, lcl_null, lcl_long, okR_nil, okR_int, okR_ref, okR_null, okR_long, pushR_some, pushR_none, va_rf_some, va_rf_none, true_and, and_true, true_implies, false_implies, not_true_eq_false, not_false_eq_true, implies_true, bI_eq0, bI_eq1, bI_01, Classical.not_not, or_em, false_and, and_false, hS.1, hS.2.1, hS.2.2.1, hS.2.2.2.1, kT_0, kT_1, kT_2, kT_15, kT_16, kT_17, kT_18, kT_19, kT_80, kT_81, kT_82, kT_89, kT_90, kT_91, kT_92, kT_93, kT_94, kT_95, kT_96, kT_97, kT_98, kT_99, kT_100, kT_101, nT_2, nT_16, nT_17, nT_19, nT_81, nT_82, nT_90, nT_91, nT_94, nT_95, nT_97, nT_98, nT_100, nT_101, rT_0_0, rT_0_3, rT_0_4, rT_0_5, rT_0_6, rT_0_7, rT_0_8, rT_0_9, rT_0_10, rT_1_0, rT_15_0, rT_15_1, rT_18_0, rT_80_0, rT_80_1, rT_89_0, rT_89_1, rT_93_6, rT_93_7, rT_96_0, rT_96_1, rT_99_0, rT_99_1, h1, ei, ea, nI_add, c1, c2, c3, n1, n2, n3, x1, x2, y2, y3, q1, q2]
        rfl
    · have q1 : (0 < lg_cmp (lN (u i b) - lN (k i b)) (lN (u a b) - lN (k a b))) = True := eq_true (Int32.not_le.mp (by rw [g1]; exact h2))
      rw [decide_eq_false h2, Bool.false_and] at er
      have hz := rsB_f er m
      rw [show i + 1 + m = 3 by omega] at hz
      rw [hz]
      simp +decide only [e_15_23, e_15_24, e_15_27, e_15_28, e_15_31, e_15_32, e_15_33, e_15_34, e_15_35, e_15_36, e_15_37, e_15_38, e_15_41, e_15_42, e_15_43, e_15_44, e_15_45, e_15_46, e_15_47, e_15_48, e_15_51, e_15_52, e_15_55, e_15_56, e_15_57, e_15_58, e_15_59, e_15_60, e_15_61, e_15_62, e_15_65, e_15_66, e_15_67, e_15_68, e_15_69, e_15_70, e_15_71, e_15_72, e_15_75, e_15_76, e_15_77, e_15_80, ↓reduceIte, Int32.reduceAdd, Int32.reduceSub, an_0, an_1, an_2, an_3, an_4, an_5, tc_0, tc_1, tc_2, tc_3, tc_4, tc_5, tc_6, tc_7, tc_8, tc_9, tc_10, tc_11, tc_12, tc_13, tc_14, tc_15, tc_16, tc_17, tc_18, tc_19, tc_20, tc_21, tc_22, tc_23, tc_24, tc_25, tc_26, tc_27, tc_28, tc_29, tc_30, tc_31, tc_32, lcl_none, lcl_int, lcl_ref, lcl_null, lcl_long, okR_nil, okR_int, okR_ref, okR_null, okR_long, pushR_some, pushR_none, va_rf_some, va_rf_none, true_and, and_true, true_implies, false_implies, not_true_eq_false, not_false_eq_true, implies_true, bI_eq0, bI_eq1, bI_01, Classical.not_not, or_em, false_and, and_false, hS.1, hS.2.1, hS.2.2.1, hS.2.2.2.1, kT_0, kT_1, kT_2, kT_15, kT_16, kT_17, kT_18, kT_19, kT_80, kT_81, kT_82, kT_89, kT_90, kT_91, kT_92, kT_93, kT_94, kT_95, kT_96, kT_97, kT_98, kT_99, kT_100, kT_101, nT_2, nT_16, nT_17, nT_19, nT_81, nT_82, nT_90, nT_91, nT_94, nT_95, nT_97, nT_98, nT_100, nT_101, rT_0_0, rT_0_3, rT_0_4, rT_0_5, rT_0_6, rT_0_7, rT_0_8, rT_0_9, rT_0_10, rT_1_0, rT_15_0, rT_15_1, rT_18_0, rT_80_0, rT_80_1, rT_89_0, rT_89_1, rT_93_6, rT_93_7, rT_96_0, rT_96_1, rT_99_0, rT_99_1, h1, ei, ea, nI_add, c1, c2, n1, n2, x1, x2, q1]
      rfl
theorem c_rests {d : Nat} {b0 : Bool} {u v k k2 : Nat → Nat → Nat} {a b : Nat} {M : ab_M} {K : ab_Q} (hd : 1 ≤ d) (hS : Sh b0 M) (hc : CT M u v k k2) (hu : ∀ a b, u a b < 2 ^ 30 ∧ v a b < 2 ^ 30 ∧ k a b < 2 ^ 30 ∧ k2 a b < 2 ^ 30) (ha : a < 3) (hb : b < 3) : EvD d 15 [.ref 99, .int (nI a), .int (nI b)] M K = K (some (.int (b01 (rsB (xI u k) (xI v k2) a b 3)))) M := by
  rw [b_15 hd]
  have a0 : (nI a < 0) = False := eq_false (nI_pos (by omega))
  have a0' : (0 ≤ nI a) = True := eq_true (nI_pos' (by omega))
  have b0 : (nI b < 0) = False := eq_false (nI_pos (by omega))
  have b0' : (0 ≤ nI b) = True := eq_true (nI_pos' (by omega))
  have a3 : (3 ≤ nI a) = False := by rw [show (3 : Int32) = nI 3 from rfl, nI_leE (by decide) (by omega)]; exact eq_false (by omega)
  have b3 : (nI b < 3) = True := by rw [show (3 : Int32) = nI 3 from rfl, nI_ltE (by omega) (by decide)]; exact eq_true (by omega)
  have h := L_rs (K := K) hS hc hu ha hb 3 0 (by omega) rfl
  simp +decide only [e_15_0, e_15_1, e_15_4, e_15_5, e_15_6, e_15_9, e_15_10, e_15_13, e_15_14, e_15_15, e_15_18, e_15_19, e_15_20, e_15_21, ↓reduceIte, Int32.reduceAdd, Int32.reduceSub, an_0, an_1, an_2, an_3, an_4, an_5, tc_0, tc_1, tc_2, tc_3, tc_4, tc_5, tc_6, tc_7, tc_8, tc_9, tc_10, tc_11, tc_12, tc_13, tc_14, tc_15, tc_16, tc_17, tc_18, tc_19, tc_20, tc_21, tc_22, tc_23, tc_24, tc_25, tc_26, tc_27, tc_28, tc_29, tc_30, tc_31, tc_32, lcl_none, lcl_int, lcl_ref, lcl_null, lcl_long, okR_nil, okR_int, okR_ref, okR_null, okR_long, pushR_some, pushR_none, va_rf_some, va_rf_none, true_and, and_true, true_implies, false_implies, not_true_eq_false, not_false_eq_true, implies_true, bI_eq0, bI_eq1, bI_01, Classical.not_not, or_em, false_and, and_false, a0, a0', b0, b0', a3, b3]
  exact h
def cnB (r : Nat → Bool) : Nat → Nat
  | 0 => 0
  | p + 1 => cnB r p + if r p = true then 1 else 0
theorem cnB_le (r : Nat → Bool) : ∀ p, cnB r p ≤ p := by
  intro p
  induction p with
  | zero => exact Nat.le_refl 0
  | succ p ih => unfold cnB; split <;> omega
def plV (p : Nat) : Int32 := nI (10 * (p / 3) + p % 3)
def seP (r : Nat → Bool) (i : Int32) : Nat → Int32
  | 0 => -1
  | p + 1 => if r p = true ∧ nI (cnB r p) = i then plV p else seP r i p
theorem L_rp {b0 : Bool} {u v k k2 : Nat → Nat → Nat} {M : ab_M} {K : ab_Q} (hS : Sh b0 M) (hc : CT M u v k k2) (hu : ∀ a b, u a b < 2 ^ 30 ∧ v a b < 2 ^ 30 ∧ k a b < 2 ^ 30 ∧ k2 a b < 2 ^ 30) : ∀ m p, p + m = 9 → Ev 1 16 4 [some (.ref 99), some (.int (nI (cnB (fun p => rsB (xI u k) (xI v k2) (p / 3) (p % 3) 3) p))), some (.int (nI p))] [] M K = K (some (.int (nI (cnB (fun p => rsB (xI u k) (xI v k2) (p / 3) (p % 3) 3) 9)))) M := by
  intro m
  induction m with
  | zero =>
    intro p hp
    have h1 : (9 ≤ nI p) = True := by rw [show p = 9 by omega]; exact eq_true (by decide)
    rw [e_16_4]
    simp +decide only [e_16_5, e_16_7, e_16_32, e_16_33, ↓reduceIte, Int32.reduceAdd, Int32.reduceSub, an_0, an_1, an_2, an_3, an_4, an_5, tc_0, tc_1, tc_2, tc_3, tc_4, tc_5, tc_6, tc_7, tc_8, tc_9, tc_10, tc_11, tc_12, tc_13, tc_14, tc_15, tc_16, tc_17, tc_18, tc_19, tc_20, tc_21, tc_22, tc_23, tc_24, tc_25, tc_26, tc_27, tc_28, tc_29, tc_30, tc_31, tc_32, lcl_none, lcl_int, lcl_ref, lcl_null, lcl_long, okR_nil, okR_int, okR_ref, okR_null, okR_long, pushR_some, pushR_none, va_rf_some, va_rf_none, true_and, and_true, true_implies, false_implies, not_true_eq_false, not_false_eq_true, implies_true, bI_eq0, bI_eq1, bI_01, Classical.not_not, or_em, false_and, and_false, h1]
    rw [show p = 9 by omega]
  | succ m ih =>
    intro p hp
    have h1 : (9 ≤ nI p) = False := by rw [show (9 : Int32) = nI 9 from rfl, nI_leE (by decide) (by omega)]; exact eq_false (by omega)
    have e1 : nI p / 3 = nI (p / 3) := pk_div (a := p) (d := 3) (by omega) (by decide) (by decide)
    have e2 : nI p - nI p / 3 * 3 = nI (p % 3) := pk_rem (a := p) (d := 3) (by omega) (by decide) (by decide)
    rw [e1] at e2
    have e0 : ((3 : Int32) = 0) = False := by decide
    have hk : mK M 99 = 2 := by rw [hS.1]; rfl
    have hih := ih (p + 1) (by omega)
    have ec : cnB (fun p => rsB (xI u k) (xI v k2) (p / 3) (p % 3) 3) (p + 1) = cnB (fun p => rsB (xI u k) (xI v k2) (p / 3) (p % 3) 3) p + if rsB (xI u k) (xI v k2) (p / 3) (p % 3) 3 = true then 1 else 0 := rfl
    rw [ec] at hih
    rw [e_16_4]
    cases hr : rsB (xI u k) (xI v k2) (p / 3) (p % 3) 3 with
    | true =>
      rw [hr, if_pos rfl] at hih
      simp +decide only [e_16_5, e_16_7, e_16_10, e_16_11, e_16_12, e_16_13, e_16_14, e_16_15, e_16_16, e_16_17, e_16_20, e_16_23, e_16_26, e_16_29, ↓reduceIte, Int32.reduceAdd, Int32.reduceSub, an_0, an_1, an_2, an_3, an_4, an_5, tc_0, tc_1, tc_2, tc_3, tc_4, tc_5, tc_6, tc_7, tc_8, tc_9, tc_10, tc_11, tc_12, tc_13, tc_14, tc_15, tc_16, tc_17, tc_18, tc_19, tc_20, tc_21, tc_22, tc_23, tc_24, tc_25, tc_26, tc_27, tc_28, tc_29, tc_30, tc_31, tc_32, lcl_none, lcl_int, lcl_ref, lcl_null, lcl_long, okR_nil, okR_int, okR_ref, okR_null, okR_long, pushR_some, pushR_none, va_rf_some, va_rf_none, true_and, and_true, true_implies, false_implies, not_true_eq_false, not_false_eq_true, implies_true, bI_eq0, bI_eq1, bI_01, Classical.not_not, or_em, false_and, and_false, h1, hk, e0, e1, e2, c_rests (d := 1) (Nat.le_refl 1) hS hc hu (show p / 3 < 3 by omega) (show p % 3 < 3 by omega), hr, b01, cond_true, nI_1]
      exact hih
    | false =>
      rw [hr] at hih
      simp +decide only [e_16_5, e_16_7, e_16_10, e_16_11, e_16_12, e_16_13, e_16_14, e_16_15, e_16_16, e_16_17, e_16_20, e_16_23, e_16_26, e_16_29, ↓reduceIte, Int32.reduceAdd, Int32.reduceSub, an_0, an_1, an_2, an_3, an_4, an_5, tc_0, tc_1, tc_2, tc_3, tc_4, tc_5, tc_6, tc_7, tc_8, tc_9, tc_10, tc_11, tc_12, tc_13, tc_14, tc_15, tc_16, tc_17, tc_18, tc_19, tc_20, tc_21, tc_22, tc_23, tc_24, tc_25, tc_26, tc_27, tc_28, tc_29, tc_30, tc_31, tc_32, lcl_none, lcl_int, lcl_ref, lcl_null, lcl_long, okR_nil, okR_int, okR_ref, okR_null, okR_long, pushR_some, pushR_none, va_rf_some, va_rf_none, true_and, and_true, true_implies, false_implies, not_true_eq_false, not_false_eq_true, implies_true, bI_eq0, bI_eq1, bI_01, Classical.not_not, or_em, false_and, and_false, h1, hk, e0, e1, e2, c_rests (d := 1) (Nat.le_refl 1) hS hc hu (show p / 3 < 3 by omega) (show p % 3 < 3 by omega), hr, b01, cond_false, nI_1]
      exact hih
theorem seP_l {r : Nat → Bool} {i : Int32} {p : Nat} (hp : p < 2 ^ 30) (hc : nI (cnB r p) = i) (hr : r p = true) : ∀ m, p + 1 + m < 2 ^ 30 → seP r i (p + 1 + m) = plV p := by
  have key : ∀ m, cnB r p + 1 ≤ cnB r (p + 1 + m) := by
    intro m
    induction m with
    | zero => show cnB r p + 1 ≤ cnB r p + (if r p = true then 1 else 0); rw [if_pos hr]; exact Nat.le_refl _
    | succ m ih => show _ ≤ cnB r (p + 1 + m) + _; omega
  intro m
  induction m with
  | zero => intro _; show (if r p = true ∧ nI (cnB r p) = i then plV p else seP r i p) = plV p; rw [if_pos ⟨hr, hc⟩]
  | succ m ih =>
    intro hm
    show (if r (p + 1 + m) = true ∧ nI (cnB r (p + 1 + m)) = i then plV (p + 1 + m) else seP r i (p + 1 + m)) = plV p
    have h1 := key m
    have h2 := cnB_le r (p + 1 + m)
    have h3 := cnB_le r p
    rw [if_neg, ih (by omega)]
    rintro ⟨-, h⟩
    rw [← hc] at h
    have := (nI_eq (by omega) (by omega)).mp h
    omega
theorem L_rq {b0 : Bool} {u v k k2 : Nat → Nat → Nat} {i : Int32} {M : ab_M} {K : ab_Q} (hS : Sh b0 M) (hc : CT M u v k k2) (hu : ∀ a b, u a b < 2 ^ 30 ∧ v a b < 2 ^ 30 ∧ k a b < 2 ^ 30 ∧ k2 a b < 2 ^ 30) : ∀ m p, p + m = 9 → seP (fun p => rsB (xI u k) (xI v k2) (p / 3) (p % 3) 3) i p = -1 → Ev 1 17 4 [some (.ref 99), some (.int i), some (.int (nI (cnB (fun p => rsB (xI u k) (xI v k2) (p / 3) (p % 3) 3) p))), some (.int (nI p))] [] M K = K (some (.int (seP (fun p => rsB (xI u k) (xI v k2) (p / 3) (p % 3) 3) i 9))) M := by
  intro m
  induction m with
  | zero =>
    intro p hp hs
    have h1 : (9 ≤ nI p) = True := by rw [show p = 9 by omega]; exact eq_true (by decide)
    rw [show p = 9 by omega] at hs
    rw [e_17_4, hs]
    simp +decide only [e_17_5, e_17_7, e_17_48, e_17_49, ↓reduceIte, Int32.reduceAdd, Int32.reduceSub, an_0, an_1, an_2, an_3, an_4, an_5, tc_0, tc_1, tc_2, tc_3, tc_4, tc_5, tc_6, tc_7, tc_8, tc_9, tc_10, tc_11, tc_12, tc_13, tc_14, tc_15, tc_16, tc_17, tc_18, tc_19, tc_20, tc_21, tc_22, tc_23, tc_24, tc_25, tc_26, tc_27, tc_28, tc_29, tc_30, tc_31, tc_32, lcl_none, lcl_int, lcl_ref, lcl_null, lcl_long, okR_nil, okR_int, okR_ref, okR_null, okR_long, pushR_some, pushR_none, va_rf_some, va_rf_none, true_and, and_true, true_implies, false_implies, not_true_eq_false, not_false_eq_true, implies_true, bI_eq0, bI_eq1, bI_01, Classical.not_not, or_em, false_and, and_false, h1]
  | succ m ih =>
    intro p hp hs
    have h1 : (9 ≤ nI p) = False := by rw [show (9 : Int32) = nI 9 from rfl, nI_leE (by decide) (by omega)]; exact eq_false (by omega)
    have e1 : nI p / 3 = nI (p / 3) := pk_div (a := p) (d := 3) (by omega) (by decide) (by decide)
    have e2 : nI p - nI p / 3 * 3 = nI (p % 3) := pk_rem (a := p) (d := 3) (by omega) (by decide) (by decide)
    rw [e1] at e2
    have e0 : ((3 : Int32) = 0) = False := by decide
    have e3 : (10 : Int32) * nI (p / 3) = nI (10 * (p / 3)) := pk_mul 10 _
    have hk : mK M 99 = 2 := by rw [hS.1]; rfl
    have hih := ih (p + 1) (by omega)
    have ec : cnB (fun p => rsB (xI u k) (xI v k2) (p / 3) (p % 3) 3) (p + 1) = cnB (fun p => rsB (xI u k) (xI v k2) (p / 3) (p % 3) 3) p + if rsB (xI u k) (xI v k2) (p / 3) (p % 3) 3 = true then 1 else 0 := rfl
    have es : seP (fun p => rsB (xI u k) (xI v k2) (p / 3) (p % 3) 3) i (p + 1) = if rsB (xI u k) (xI v k2) (p / 3) (p % 3) 3 = true ∧ nI (cnB (fun p => rsB (xI u k) (xI v k2) (p / 3) (p % 3) 3) p) = i then plV p else seP (fun p => rsB (xI u k) (xI v k2) (p / 3) (p % 3) 3) i p := rfl
    rw [ec, es] at hih
    have hcr := fun K => c_rests (K := K) (d := 1) (Nat.le_refl 1) hS hc hu (show p / 3 < 3 by omega) (show p % 3 < 3 by omega)
    rw [e_17_4]
    cases hr : rsB (xI u k) (xI v k2) (p / 3) (p % 3) 3 with
    | true =>
      rw [hr] at hcr
      by_cases hci : nI (cnB (fun p => rsB (xI u k) (xI v k2) (p / 3) (p % 3) 3) p) = i
      · have hl := seP_l (r := fun p => rsB (xI u k) (xI v k2) (p / 3) (p % 3) 3) (by omega) hci hr m (by omega)
        rw [show p + 1 + m = 9 by omega] at hl
        rw [hl]
        have hci' : (nI (cnB (fun p => rsB (xI u k) (xI v k2) (p / 3) (p % 3) 3) p) = i) = True := eq_true hci
        simp +decide only [e_17_5, e_17_7, e_17_10, e_17_11, e_17_12, e_17_13, e_17_14, e_17_15, e_17_16, e_17_17, e_17_20, e_17_23, e_17_24, e_17_25, e_17_28, e_17_30, e_17_31, e_17_32, e_17_33, e_17_34, e_17_35, e_17_36, e_17_37, e_17_38, ↓reduceIte, Int32.reduceAdd, Int32.reduceSub, an_0, an_1, an_2, an_3, an_4, an_5, tc_0, tc_1, tc_2, tc_3, tc_4, tc_5, tc_6, tc_7, tc_8, tc_9, tc_10, tc_11, tc_12, tc_13, tc_14, tc_15, tc_16, tc_17, tc_18, tc_19, tc_20, tc_21, tc_22, tc_23, tc_24, tc_25, tc_26, tc_27, tc_28, tc_29, tc_30, tc_31, tc_32, lcl_none, lcl_int, lcl_ref, lcl_null, lcl_long, okR_nil, okR_int, okR_ref, okR_null, okR_long, pushR_some, pushR_none, va_rf_some, va_rf_none, true_and, and_true, true_implies, false_implies, not_true_eq_false, not_false_eq_true, implies_true, bI_eq0, bI_eq1, bI_01, Classical.not_not, or_em, false_and, and_false, h1, hk, e0, e1, e2, hcr, b01, cond_true, hci', e3, nI_add]
        rfl
      · have hci' : (nI (cnB (fun p => rsB (xI u k) (xI v k2) (p / 3) (p % 3) 3) p) = i) = False := eq_false hci
        rw [hr, if_pos rfl, if_neg (fun z => hci z.2)] at hih
        simp +decide only [e_17_5, e_17_7, e_17_10, e_17_11, e_17_12, e_17_13, e_17_14, e_17_15, e_17_16, e_17_17, e_17_20, e_17_23, e_17_24, e_17_25, e_17_28, e_17_30, e_17_31, e_17_32, e_17_33, e_17_34, e_17_35, e_17_36, e_17_37, e_17_38, e_17_39, e_17_42, e_17_45, ↓reduceIte, Int32.reduceAdd, Int32.reduceSub, an_0, an_1, an_2, an_3, an_4, an_5, tc_0, tc_1, tc_2, tc_3, tc_4, tc_5, tc_6, tc_7, tc_8, tc_9, tc_10, tc_11, tc_12, tc_13, tc_14, tc_15, tc_16, tc_17, tc_18, tc_19, tc_20, tc_21, tc_22, tc_23, tc_24, tc_25, tc_26, tc_27, tc_28, tc_29, tc_30, tc_31, tc_32, lcl_none, lcl_int, lcl_ref, lcl_null, lcl_long, okR_nil, okR_int, okR_ref, okR_null, okR_long, pushR_some, pushR_none, va_rf_some, va_rf_none, true_and, and_true, true_implies, false_implies, not_true_eq_false, not_false_eq_true, implies_true, bI_eq0, bI_eq1, bI_01, Classical.not_not, or_em, false_and, and_false, h1, hk, e0, e1, e2, hcr, b01, cond_true, hci', nI_1]
        exact hih hs
    | false =>
      rw [hr] at hcr hih
      rw [if_neg (fun z => absurd z.1 (by decide))] at hih
      simp +decide only [e_17_5, e_17_7, e_17_10, e_17_11, e_17_12, e_17_13, e_17_14, e_17_15, e_17_16, e_17_17, e_17_20, e_17_23, e_17_24, e_17_25, e_17_28, e_17_30, e_17_31, e_17_32, e_17_33, e_17_34, e_17_35, e_17_36, e_17_37, e_17_38, e_17_39, e_17_42, e_17_45, ↓reduceIte, Int32.reduceAdd, Int32.reduceSub, an_0, an_1, an_2, an_3, an_4, an_5, tc_0, tc_1, tc_2, tc_3, tc_4, tc_5, tc_6, tc_7, tc_8, tc_9, tc_10, tc_11, tc_12, tc_13, tc_14, tc_15, tc_16, tc_17, tc_18, tc_19, tc_20, tc_21, tc_22, tc_23, tc_24, tc_25, tc_26, tc_27, tc_28, tc_29, tc_30, tc_31, tc_32, lcl_none, lcl_int, lcl_ref, lcl_null, lcl_long, okR_nil, okR_int, okR_ref, okR_null, okR_long, pushR_some, pushR_none, va_rf_some, va_rf_none, true_and, and_true, true_implies, false_implies, not_true_eq_false, not_false_eq_true, implies_true, bI_eq0, bI_eq1, bI_01, Classical.not_not, or_em, false_and, and_false, h1, hk, e0, e1, e2, hcr, b01, cond_false, nI_1]
      exact hih hs
