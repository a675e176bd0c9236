/-! pay and chance, as numbers -/
def payN (V T P c h : Nat) : Nat := (if P = 0 then 0 else V * T / 10 / P) + (if c = 0 then 0 else h * ((V - V * T / 10) / c))
theorem pay_F {V T : Nat} (hT : T ≤ 10) : V * T / 10 ≤ V := by
  have h : V * T ≤ V * 10 := Nat.mul_le_mul_left V hT
  omega
theorem payN_le {V T P c h : Nat} (hT : T ≤ 10) (hh : h ≤ c) : payN V T P c h ≤ V := by
  have h1 := pay_F (V := V) hT
  unfold payN
  have h2 : (if P = 0 then 0 else V * T / 10 / P) ≤ V * T / 10 := by
    by_cases e : P = 0
    · rw [if_pos e]; omega
    · rw [if_neg e]; exact Nat.div_le_self _ _
  have h3 : (if c = 0 then 0 else h * ((V - V * T / 10) / c)) ≤ V - V * T / 10 := by
    by_cases e : c = 0
    · rw [if_pos e]; omega
    · rw [if_neg e]
      exact Nat.le_trans (Nat.mul_le_mul_right _ hh) (by rw [Nat.mul_comm]; exact Nat.div_mul_le_self _ _)
  omega
theorem payI_N {V T P c h : Nat} (hV : V ≤ 999) (hT : T ≤ 10) (hP : P ≤ 5) (hc : c ≤ 5) : payI (nI V) (nI T) P c h = nI (payN V T P c h) := by
  have h1 := pay_F (V := V) hT
  have h9 : V * T ≤ 999 * 10 := Nat.mul_le_mul hV hT
  have e0 : nI V * nI T / 10 = nI (V * T / 10) := by
    rw [pk_mul, show (10 : Int32) = nI 10 from rfl, pk_div (by omega) (by decide) (by decide)]
  have e1 : (if P = 0 then (0 : Int32) else nI (V * T / 10) / nI P) = nI (if P = 0 then 0 else V * T / 10 / P) := by
    by_cases e : P = 0
    · rw [if_pos e, if_pos e]; rfl
    · rw [if_neg e, if_neg e, pk_div (by omega) (by omega) (by omega)]
  unfold payI payN
  rw [e0, e1]
  by_cases e : c = 0
  · rw [if_pos e, if_pos e, Nat.add_zero]
  · rw [if_neg e, if_neg e, pk_sub h1, pk_div (by omega) (by omega) (by omega), pk_mul, nI_add]
def chN (q : Nat) (g h : Bool) : Nat := if g = h then q else if g = true then q / 2 else if 50 < q then 100 else 2 * q
theorem chN_le {q : Nat} {g h : Bool} (hq : q ≤ 100) : chN q g h ≤ 100 := by
  unfold chN
  split
  · exact hq
  · split
    · omega
    · split <;> omega
theorem chS_N : ∀ q, q ≤ 100 → ∀ g h : Bool, chS (nI q) g h = nI (chN q g h) := by decide +kernel
def cfN (q : Nat → Nat) (g h : Int32) (l : Nat) : Nat := chN (q l) (hasB g (nI l)) (hasB h (nI l))
theorem and_bit : ∀ A, A < 32 → ∀ l, l < 5 → ((nI A &&& nI (2 ^ l) = 0) ↔ ¬ A / 2 ^ l % 2 = 1) := by decide +kernel
theorem xor_bit : ∀ A, A < 32 → ∀ l, l < 5 → A / 2 ^ l % 2 = 1 → nI A ^^^ nI (2 ^ l) = nI (A - 2 ^ l) := by decide +kernel
theorem and_sub : ∀ A, A < 32 → ∀ B, B < 32 → ((nI B &&& (nI A ^^^ (-1)) = 0) ↔ B &&& A = B) := by decide +kernel
theorem lN_div {a b : Nat} (ha : a < 2 ^ 63) (hb : b < 2 ^ 63) : lN a / lN b = lN (a / b) := (Int64.ofNat_div ha hb).symm
theorem pow_L {L : Nat} (hL : L ≤ 5) : 2 ^ L ≤ 32 := Nat.pow_le_pow_right (n := 2) (by decide) hL
/-! the trial: one life weighed -/
def wgF (f : Nat → Nat) (l dd A : Nat) : Nat := if A / 2 ^ l % 2 = 1 then (100 - dd) * f A + dd * f (A - 2 ^ l) else f A
theorem L_weigh {L l dd : Nat} {b : Bool} {f : Nat → Nat} {M0 : ab_M} {Q : ab_Q} (h5 : mI M0 93 5 = nI (2 ^ L)) (hL : L ≤ 5) (hl : l < L) (hdd : dd ≤ 100) (hQ : ∀ M1, Sh b M1 → mI M1 = mI M0 → (∀ c, c ≠ 95 → mJ M1 c = mJ M0 c) → (∀ A, A < 2 ^ L → mJ M1 95 A = lN (wgF f l dd A)) → Q none M1) : ∀ m i M, i + m = 2 ^ L → Sh b M → mI M = mI M0 → (∀ c, c ≠ 95 → mJ M c = mJ M0 c) → (∀ A, A < 2 ^ L → mJ M 95 A = lN (if A < i then wgF f l dd A else f A)) → Ev 0 67 2 [some (.ref 93), some (.int (nI (2 ^ l))), some (.int (nI dd)), some (.int (nI i))] [] M Q := by
  have h32 := pow_L hL
  intro m
  induction m with
  | zero =>
    intro i M hi hS hI hJ hf
    have h1 : (nI (2 ^ L) ≤ nI i) = True := by rw [nI_leE (by omega) (by omega)]; exact eq_true (by omega)
    have e5 : mI M 93 5 = nI (2 ^ L) := by rw [hI]; exact h5
    rw [e_67_2]
    simp +decide only [e_67_3, e_67_4, e_67_7, e_67_52, ↓reduceIte, Int32.reduceAdd, Int32.reduceSub, an_0, an_1, an_2, an_3, an_4, an_5, tc_0, tc_1, tc_2, tc_3, tc_4, tc_5, tc_6, tc_7, tc_8, tc_9, tc_10, tc_11, tc_12, tc_13, tc_14, tc_15, tc_16, tc_17, tc_18, tc_19, tc_20, tc_21, tc_22, tc_23, tc_24, tc_25, tc_26, tc_27, tc_28, tc_29, tc_30, tc_31, tc_32, lcl_none, lcl_int, lcl_ref, lcl_null, lcl_long, okR_nil, okR_int, okR_ref, okR_null, okR_long, pushR_some, pushR_none, va_rf_some, va_rf_none, true_and, and_true, true_implies, false_implies, not_true_eq_false, not_false_eq_true, implies_true, bI_eq0, bI_eq1, bI_01, Classical.not_not, or_em, false_and, and_false, hS.1, hS.2.1, hS.2.2.1, hS.2.2.2.1, kT_0, kT_1, kT_2, kT_15, kT_16, kT_17, kT_18, kT_19, kT_80, kT_81, kT_82, kT_89, kT_90, kT_91, kT_92, kT_93, kT_94, kT_95, kT_96, kT_97, kT_98, kT_99, kT_100, kT_101, nT_2, nT_16, nT_17, nT_19, nT_81, nT_82, nT_90, nT_91, nT_94, nT_95, nT_97, nT_98, nT_100, nT_101, rT_0_0, rT_0_3, rT_0_4, rT_0_5, rT_0_6, rT_0_7, rT_0_8, rT_0_9, rT_0_10, rT_1_0, rT_15_0, rT_15_1, rT_18_0, rT_80_0, rT_80_1, rT_89_0, rT_89_1, rT_93_6, rT_93_7, rT_96_0, rT_96_1, rT_99_0, rT_99_1, e5, h1]
    refine hQ M hS hI hJ (fun A hA => ?_)
    rw [hf A hA, if_pos (by omega)]
  | succ m ih =>
    intro i M hi hS hI hJ hf
    have h1 : (nI (2 ^ L) ≤ nI i) = False := by rw [nI_leE (by omega) (by omega)]; exact eq_false (by omega)
    have e5 : mI M 93 5 = nI (2 ^ L) := by rw [hI]; exact h5
    have hcl : (nI i).toNatClampNeg = i := nI_clamp (by omega)
    have hin : inX (nI i) 32 = True := eq_true (inX_nI (by decide) (by omega))
    rw [e_67_2]
    by_cases hb : i / 2 ^ l % 2 = 1
    · have h2 : (nI i &&& nI (2 ^ l) = 0) = False := eq_false (fun z => (and_bit i (by omega) l (by omega)).mp z hb)
      have h3 := xor_bit i (by omega) l (by omega) hb
      have hge := bit_ge hb
      have hp : 0 < 2 ^ l := Nat.pow_pos (by decide)
      have hcl2 : (nI (i - 2 ^ l)).toNatClampNeg = i - 2 ^ l := nI_clamp (by omega)
      have hin2 : inX (nI (i - 2 ^ l)) 32 = True := eq_true (inX_nI (by decide) (by omega))
      have f1 : mJ M 95 i = lN (f i) := by rw [hf i (by omega), if_neg (by omega)]
      have f2 : mJ M 95 (i - 2 ^ l) = lN (f (i - 2 ^ l)) := by
        rw [hf (i - 2 ^ l) (by omega), if_pos (by omega)]
        unfold wgF
        rw [if_neg]
        intro z
        have h9 := bit_lo (l := l + 1) (j := l) (B := i - 2 ^ l) (by omega)
        have h8 : (2 ^ l + (i - 2 ^ l)) / 2 ^ l = (i - 2 ^ l) / 2 ^ l + 1 := by rw [Nat.add_div_left _ hp]
        rw [show 2 ^ l + (i - 2 ^ l) = i by omega] at h8
        omega
      have e7 : (100 : Int32) - nI dd = nI (100 - dd) := pk_sub (a := 100) hdd
      have e8 : (nI (100 - dd)).toInt64 = lN (100 - dd) := nI_l (by omega)
      have e9 : (nI dd).toInt64 = lN dd := nI_l (by omega)
      simp +decide only [e_67_3, e_67_4, e_67_7, e_67_10, e_67_11, e_67_12, e_67_13, e_67_16, e_67_17, e_67_20, e_67_21, e_67_23, e_67_24, e_67_25, e_67_26, e_67_27, e_67_30, e_67_31, e_67_32, e_67_33, e_67_34, e_67_35, e_67_36, e_67_39, e_67_40, e_67_41, e_67_42, e_67_43, e_67_44, e_67_45, e_67_46, e_67_49, ↓reduceIte, Int32.reduceAdd, Int32.reduceSub, an_0, an_1, an_2, an_3, an_4, an_5, tc_0, tc_1, tc_2, tc_3, tc_4, tc_5, tc_6, tc_7, tc_8, tc_9, tc_10, tc_11, tc_12, tc_13, tc_14, tc_15, tc_16, tc_17, tc_18, tc_19, tc_20, tc_21, tc_22, tc_23, tc_24, tc_25, tc_26, tc_27, tc_28, tc_29, tc_30, tc_31, tc_32, lcl_none, lcl_int, lcl_ref, lcl_null, lcl_long, okR_nil, okR_int, okR_ref, okR_null, okR_long, pushR_some, pushR_none, va_rf_some, va_rf_none, true_and, and_true, true_implies, false_implies, not_true_eq_false, not_false_eq_true, implies_true, bI_eq0, bI_eq1, bI_01, Classical.not_not, or_em, false_and, and_false, hS.1, hS.2.1, hS.2.2.1, hS.2.2.2.1, kT_0, kT_1, kT_2, kT_15, kT_16, kT_17, kT_18, kT_19, kT_80, kT_81, kT_82, kT_89, kT_90, kT_91, kT_92, kT_93, kT_94, kT_95, kT_96, kT_97, kT_98, kT_99, kT_100, kT_101, nT_2, nT_16, nT_17, nT_19, nT_81, nT_82, nT_90, nT_91, nT_94, nT_95, nT_97, nT_98, nT_100, nT_101, rT_0_0, rT_0_3, rT_0_4, rT_0_5, rT_0_6, rT_0_7, rT_0_8, rT_0_9, rT_0_10, rT_1_0, rT_15_0, rT_15_1, rT_18_0, rT_80_0, rT_80_1, rT_89_0, rT_89_1, rT_93_6, rT_93_7, rT_96_0, rT_96_1, rT_99_0, rT_99_1, e5, h1, h2, h3, hcl, hin, hcl2, hin2, f1, f2, e7, e8, e9, lN_mul, lN_add, nI_1]
      refine ih (i + 1) _ (by omega) hS (by rw [← hI]; rfl) (fun c hc => by rw [← hJ c hc]; funext j; rw [mJ_wJ, if_neg (fun z => hc z.1)]) (fun A hA => ?_)
      rw [mJ_wJ]
      by_cases e : A = i
      · rw [if_pos ⟨rfl, e⟩, if_pos (by omega), e]
        unfold wgF
        rw [if_pos hb]
      · rw [if_neg (fun z => e z.2), hf A hA]
        by_cases e2 : A < i
        · rw [if_pos e2, if_pos (by omega)]
        · rw [if_neg e2, if_neg (by omega)]
    · have h2 : (nI i &&& nI (2 ^ l) = 0) = True := eq_true ((and_bit i (by omega) l (by omega)).mpr hb)
      simp +decide only [e_67_3, e_67_4, e_67_7, e_67_10, e_67_11, e_67_12, e_67_13, e_67_46, e_67_49, ↓reduceIte, Int32.reduceAdd, Int32.reduceSub, an_0, an_1, an_2, an_3, an_4, an_5, tc_0, tc_1, tc_2, tc_3, tc_4, tc_5, tc_6, tc_7, tc_8, tc_9, tc_10, tc_11, tc_12, tc_13, tc_14, tc_15, tc_16, tc_17, tc_18, tc_19, tc_20, tc_21, tc_22, tc_23, tc_24, tc_25, tc_26, tc_27, tc_28, tc_29, tc_30, tc_31, tc_32, lcl_none, lcl_int, lcl_ref, lcl_null, lcl_long, okR_nil, okR_int, okR_ref, okR_null, okR_long, pushR_some, pushR_none, va_rf_some, va_rf_none, true_and, and_true, true_implies, false_implies, not_true_eq_false, not_false_eq_true, implies_true, bI_eq0, bI_eq1, bI_01, Classical.not_not, or_em, false_and, and_false, hS.1, hS.2.1, hS.2.2.1, hS.2.2.2.1, kT_0, kT_1, kT_2, kT_15, kT_16, kT_17, kT_18, kT_19, kT_80, kT_81, kT_82, kT_89, kT_90, kT_91, kT_92, kT_93, kT_94, kT_95, kT_96, kT_97, kT_98, kT_99, kT_100, kT_101, nT_2, nT_16, nT_17, nT_19, nT_81, nT_82, nT_90, nT_91, nT_94, nT_95, nT_97, nT_98, nT_100, nT_101, rT_0_0, rT_0_3, rT_0_4, rT_0_5, rT_0_6, rT_0_7, rT_0_8, rT_0_9, rT_0_10, rT_1_0, rT_15_0, rT_15_1, rT_18_0, rT_80_0, rT_80_1, rT_89_0, rT_89_1, rT_93_6, rT_93_7, rT_96_0, rT_96_1, rT_99_0, rT_99_1, e5, h1, h2, nI_1]
      refine ih (i + 1) M (by omega) hS hI hJ (fun A hA => ?_)
      rw [hf A hA]
      by_cases e2 : A < i
      · rw [if_pos e2, if_pos (by omega)]
      · rw [if_neg e2]
        by_cases e : A = i
        · rw [if_pos (by omega), e]
          unfold wgF
          rw [if_neg hb]
        · rw [if_neg (by omega)]
theorem c_weigh {d L l dd : Nat} {b : Bool} {f : Nat → Nat} {M : ab_M} (hd : 1 ≤ d) (hS : Sh b M) (h5 : mI M 93 5 = nI (2 ^ L)) (hL : L ≤ 5) (hl : l < L) (hdd : dd ≤ 100) (hf : ∀ A, A < 2 ^ L → mJ M 95 A = lN (f A)) : EvD d 67 [.ref 93, .int (nI (2 ^ l)), .int (nI dd)] M (fun r M1 => r = none ∧ Sh b M1 ∧ mI M1 = mI M ∧ (∀ c, c ≠ 95 → mJ M1 c = mJ M c) ∧ ∀ A, A < 2 ^ L → mJ M1 95 A = lN (wgF f l dd A)) := by
  rw [b_67 hd]
  simp +decide only [e_67_0, e_67_1, ↓reduceIte, Int32.reduceAdd, Int32.reduceSub, an_0, an_1, an_2, an_3, an_4, an_5, tc_0, tc_1, tc_2, tc_3, tc_4, tc_5, tc_6, tc_7, tc_8, tc_9, tc_10, tc_11, tc_12, tc_13, tc_14, tc_15, tc_16, tc_17, tc_18, tc_19, tc_20, tc_21, tc_22, tc_23, tc_24, tc_25, tc_26, tc_27, tc_28, tc_29, tc_30, tc_31, tc_32, lcl_none, lcl_int, lcl_ref, lcl_null, lcl_long, okR_nil, okR_int, okR_ref, okR_null, okR_long, pushR_some, pushR_none, va_rf_some, va_rf_none, true_and, and_true, true_implies, false_implies, not_true_eq_false, not_false_eq_true, implies_true, bI_eq0, bI_eq1, bI_01, Classical.not_not, or_em, false_and, and_false]
  exact L_weigh h5 hL hl hdd (fun M1 h1 h2 h3 h4 => ⟨rfl, h1, h2, h3, h4⟩) (2 ^ L) 0 M (by omega) hS rfl (fun _ _ => rfl) (fun A hA => by rw [if_neg (by omega)]; exact hf A hA)
theorem c_wholeOf {d x : Nat} {M : ab_M} {K : ab_Q} (hd : 2 ≤ d) (hx : x < 32) : EvD d 68 [.int (nI x)] M K = K (some (.long (lN (100 ^ pop5 x)))) M := by
  rw [b_68 hd]
  have h5 := pop5_le x hx
  have hp : ∀ K, EvD 1 180 [.int (nI x)] M K = K (some (.int (nI (pop5 x)))) M := fun K => c_popC (Nat.le_refl 1) hx
  generalize pop5 x = n at *
  have z1 : (1 : Int64) = lN 1 := rfl
  have : n = 0 ∨ n = 1 ∨ n = 2 ∨ n = 3 ∨ n = 4 ∨ n = 5 := by omega
  rcases this with rfl | rfl | rfl | rfl | rfl | rfl <;> simp +decide only [e_68_0, e_68_1, e_68_2, e_68_3, e_68_6, e_68_7, e_68_8, e_68_11, e_68_12, e_68_15, e_68_16, e_68_17, e_68_20, e_68_23, e_68_24, ↓reduceIte, Int32.reduceAdd, Int32.reduceSub, an_0, an_1, an_2, an_3, an_4, an_5, tc_0, tc_1, tc_2, tc_3, tc_4, tc_5, tc_6, tc_7, tc_8, tc_9, tc_10, tc_11, tc_12, tc_13, tc_14, tc_15, tc_16, tc_17, tc_18, tc_19, tc_20, tc_21, tc_22, tc_23, tc_24, tc_25, tc_26, tc_27, tc_28, tc_29, tc_30, tc_31, tc_32, lcl_none, lcl_int, lcl_ref, lcl_null, lcl_long, okR_nil, okR_int, okR_ref, okR_null, okR_long, pushR_some, pushR_none, va_rf_some, va_rf_none, true_and, and_true, true_implies, false_implies, not_true_eq_false, not_false_eq_true, implies_true, bI_eq0, bI_eq1, bI_01, Classical.not_not, or_em, false_and, and_false, hp] <;> rfl
