/-! nurse, the class -/
theorem setN_bit {p : Nat → Bool} : ∀ n l, l < n → bitB (setN p n) l = p l := by
  intro n
  induction n with
  | zero => intro l h; omega
  | succ n ih =>
    intro l hl
    have hlt := setN_lt p n
    show bitB (setN p n + if p n = true then 2 ^ n else 0) l = p l
    by_cases e : l = n
    · rw [e]
      cases hp : p n with
      | true =>
        rw [if_pos rfl, Nat.add_comm]
        unfold bitB
        rw [bit_hi hlt]
        rfl
      | false =>
        rw [if_neg (by decide), Nat.add_zero (setN p n)]
        exact bitB_up hlt (Nat.le_refl n)
    · rw [← ih l (by omega)]
      cases hp : p n with
      | true =>
        rw [if_pos rfl, Nat.add_comm]
        unfold bitB
        rw [bit_lo (by omega)]
      | false => rw [if_neg (by decide), Nat.add_zero (setN p n)]
theorem L_cl {b : Bool} {M0 : ab_M} {Q : ab_Q} (hQ : ∀ M1, Sh b M1 → (∀ c, c ≠ 97 → c ≠ 98 → mI M1 c = mI M0 c) → (∀ l, l < 5 → mI M1 97 l = 0) → Q none M1) : ∀ m l M, l + m = 5 → Sh b M → (∀ c, c ≠ 97 → c ≠ 98 → mI M c = mI M0 c) → (∀ i, i < l → mI M 97 i = 0) → Ev 0 27 2 [some (.ref 96), some (.int (nI l))] [] M Q := by
  intro m
  induction m with
  | zero =>
    intro l M hl hS hf hw
    have h1 : (5 ≤ nI l) = True := by rw [show l = 5 by omega]; exact eq_true (by decide)
    rw [e_27_2]
    simp +decide only [e_27_3, e_27_4, e_27_27, ↓reduceIte, Int32.reduceAdd, Int32.reduceSub, an_0, an_1, an_2, an_3, an_4, an_5, tc_0, tc_1, tc_2, tc_3, tc_4, tc_5, tc_6, tc_7, tc_8, tc_9, tc_10, tc_11, tc_12, tc_13, tc_14, tc_15, tc_16, tc_17, tc_18, tc_19, tc_20, tc_21, tc_22, tc_23, tc_24, tc_25, tc_26, tc_27, tc_28, tc_29, tc_30, tc_31, tc_32, lcl_none, lcl_int, lcl_ref, lcl_null, lcl_long, okR_nil, okR_int, okR_ref, okR_null, okR_long, pushR_some, pushR_none, va_rf_some, va_rf_none, true_and, and_true, true_implies, false_implies, not_true_eq_false, not_false_eq_true, implies_true, bI_eq0, bI_eq1, bI_01, Classical.not_not, or_em, false_and, and_false, h1]
    exact hQ M hS hf (fun i hi => hw i (by omega))
  | succ m ih =>
    intro l M hl hS hf hw
    have h1 : (5 ≤ nI l) = False := by rw [show (5 : Int32) = nI 5 from rfl, nI_leE (by decide) (by omega)]; exact eq_false (by omega)
    have hcl : (nI l).toNatClampNeg = l := nI_clamp (by omega)
    have hin : inX (nI l) 5 = True := eq_true (inX_nI (by decide) (by omega))
    rw [e_27_2]
    simp +decide only [e_27_3, e_27_4, e_27_7, e_27_8, e_27_11, e_27_12, e_27_13, e_27_14, e_27_15, e_27_18, e_27_19, e_27_20, e_27_21, e_27_24, ↓reduceIte, Int32.reduceAdd, Int32.reduceSub, an_0, an_1, an_2, an_3, an_4, an_5, tc_0, tc_1, tc_2, tc_3, tc_4, tc_5, tc_6, tc_7, tc_8, tc_9, tc_10, tc_11, tc_12, tc_13, tc_14, tc_15, tc_16, tc_17, tc_18, tc_19, tc_20, tc_21, tc_22, tc_23, tc_24, tc_25, tc_26, tc_27, tc_28, tc_29, tc_30, tc_31, tc_32, lcl_none, lcl_int, lcl_ref, lcl_null, lcl_long, okR_nil, okR_int, okR_ref, okR_null, okR_long, pushR_some, pushR_none, va_rf_some, va_rf_none, true_and, and_true, true_implies, false_implies, not_true_eq_false, not_false_eq_true, implies_true, bI_eq0, bI_eq1, bI_01, Classical.not_not, or_em, false_and, and_false, hS.1, hS.2.1, hS.2.2.1, hS.2.2.2.1, kT_0, kT_1, kT_2, kT_15, kT_16, kT_17, kT_18, kT_19, kT_80, kT_81, kT_82, kT_89, kT_90, kT_91, kT_92, kT_93, kT_94, kT_95, kT_96, kT_97, kT_98, kT_99, kT_100, kT_101, nT_2, nT_16, nT_17, nT_19, nT_81, nT_82, nT_90, nT_91, nT_94, nT_95, nT_97, nT_98, nT_100, nT_101, rT_0_0, rT_0_3, rT_0_4, rT_0_5, rT_0_6, rT_0_7, rT_0_8, rT_0_9, rT_0_10, rT_1_0, rT_15_0, rT_15_1, rT_18_0, rT_80_0, rT_80_1, rT_89_0, rT_89_1, rT_93_6, rT_93_7, rT_96_0, rT_96_1, rT_99_0, rT_99_1, mK_wI, mN_wI, mR_wI, h1, hcl, hin, nI_1]
    refine ih (l + 1) _ (by omega) hS (fun c h97 h98 => by rw [mI_wI_ne h98, mI_wI_ne h97]; exact hf c h97 h98) (fun i hi => ?_)
    rw [mI_wI_ne (by decide), mI_wI]
    by_cases e : i = l
    · rw [if_pos ⟨rfl, e⟩]
    · rw [if_neg (fun z => e z.2)]
      exact hw i (by omega)
theorem c_clear {d : Nat} {b : Bool} {M : ab_M} (hd : 1 ≤ d) (hS : Sh b M) : EvD d 27 [.ref 96] M (fun r M1 => r = none ∧ Sh b M1 ∧ (∀ c, c ≠ 97 → c ≠ 98 → mI M1 c = mI M c) ∧ ∀ l, l < 5 → mI M1 97 l = 0) := by
  rw [b_27 hd]
  simp +decide only [e_27_0, e_27_1, ↓reduceIte, Int32.reduceAdd, Int32.reduceSub, an_0, an_1, an_2, an_3, an_4, an_5, tc_0, tc_1, tc_2, tc_3, tc_4, tc_5, tc_6, tc_7, tc_8, tc_9, tc_10, tc_11, tc_12, tc_13, tc_14, tc_15, tc_16, tc_17, tc_18, tc_19, tc_20, tc_21, tc_22, tc_23, tc_24, tc_25, tc_26, tc_27, tc_28, tc_29, tc_30, tc_31, tc_32, lcl_none, lcl_int, lcl_ref, lcl_null, lcl_long, okR_nil, okR_int, okR_ref, okR_null, okR_long, pushR_some, pushR_none, va_rf_some, va_rf_none, true_and, and_true, true_implies, false_implies, not_true_eq_false, not_false_eq_true, implies_true, bI_eq0, bI_eq1, bI_01, Classical.not_not, or_em, false_and, and_false]
  exact L_cl (fun M1 h1 h2 h3 => ⟨rfl, h1, h2, h3⟩) 5 0 M (by omega) hS (fun _ _ _ => rfl) (fun i hi => absurd hi (Nat.not_lt_zero i))
theorem L_of {x j : Nat} {b : Bool} {M0 : ab_M} {Q : ab_Q} (hx : x < 32) (hj : j < 5) (hQ : ∀ M1, Sh b M1 → (∀ c, c ≠ 97 → mI M1 c = mI M0 c) → (∀ l, l < 5 → mI M1 97 l = if bitB x l = true then mI M0 97 l ||| nI (2 ^ j) else mI M0 97 l) → Q none M1) : ∀ m l M, l + m = 5 → Sh b M → (∀ c, c ≠ 97 → mI M c = mI M0 c) → (∀ i, i < 5 → mI M 97 i = if i < l ∧ bitB x i = true then mI M0 97 i ||| nI (2 ^ j) else mI M0 97 i) → Ev 1 28 2 [some (.ref 96), some (.int (nI j)), some (.int (nI x)), some (.int (nI l))] [] M Q := by
  intro m
  induction m with
  | zero =>
    intro l M hl hS hf hw
    have h1 : (5 ≤ nI l) = True := by rw [show l = 5 by omega]; exact eq_true (by decide)
    rw [e_28_2]
    simp +decide only [e_28_3, e_28_4, e_28_33, ↓reduceIte, Int32.reduceAdd, Int32.reduceSub, an_0, an_1, an_2, an_3, an_4, an_5, tc_0, tc_1, tc_2, tc_3, tc_4, tc_5, tc_6, tc_7, tc_8, tc_9, tc_10, tc_11, tc_12, tc_13, tc_14, tc_15, tc_16, tc_17, tc_18, tc_19, tc_20, tc_21, tc_22, tc_23, tc_24, tc_25, tc_26, tc_27, tc_28, tc_29, tc_30, tc_31, tc_32, lcl_none, lcl_int, lcl_ref, lcl_null, lcl_long, okR_nil, okR_int, okR_ref, okR_null, okR_long, pushR_some, pushR_none, va_rf_some, va_rf_none, true_and, and_true, true_implies, false_implies, not_true_eq_false, not_false_eq_true, implies_true, bI_eq0, bI_eq1, bI_01, Classical.not_not, or_em, false_and, and_false, h1]
    refine hQ M hS hf (fun i hi => ?_)
    rw [hw i hi]
    by_cases hb : bitB x i = true
    · rw [if_pos ⟨by omega, hb⟩, if_pos hb]
    · rw [if_neg (fun z => hb z.2), if_neg hb]
  | succ m ih =>
    intro l M hl hS hf hw
    have h1 : (5 ≤ nI l) = False := by rw [show (5 : Int32) = nI 5 from rfl, nI_leE (by decide) (by omega)]; exact eq_false (by omega)
    have hbl := hasB_b (x := x) (l := l) hx (by omega)
    have hcl : (nI l).toNatClampNeg = l := nI_clamp (by omega)
    have hin : inX (nI l) 5 = True := eq_true (inX_nI (by decide) (by omega))
    have hsh := shl_nI j hj
    rw [e_28_2]
    cases hb : bitB x l with
    | false =>
      rw [hb] at hbl
      simp +decide only [e_28_3, e_28_4, e_28_7, e_28_8, e_28_9, e_28_12, e_28_15, e_28_16, e_28_19, e_28_20, e_28_21, e_28_22, e_28_23, e_28_24, e_28_25, e_28_26, e_28_27, e_28_30, ↓reduceIte, Int32.reduceAdd, Int32.reduceSub, an_0, an_1, an_2, an_3, an_4, an_5, tc_0, tc_1, tc_2, tc_3, tc_4, tc_5, tc_6, tc_7, tc_8, tc_9, tc_10, tc_11, tc_12, tc_13, tc_14, tc_15, tc_16, tc_17, tc_18, tc_19, tc_20, tc_21, tc_22, tc_23, tc_24, tc_25, tc_26, tc_27, tc_28, tc_29, tc_30, tc_31, tc_32, lcl_none, lcl_int, lcl_ref, lcl_null, lcl_long, okR_nil, okR_int, okR_ref, okR_null, okR_long, pushR_some, pushR_none, va_rf_some, va_rf_none, true_and, and_true, true_implies, false_implies, not_true_eq_false, not_false_eq_true, implies_true, bI_eq0, bI_eq1, bI_01, Classical.not_not, or_em, false_and, and_false, h1, c_isIn (d := 1) (by decide), hbl, nI_1]
      refine ih (l + 1) M (by omega) hS hf (fun i hi => ?_)
      rw [hw i hi]
      by_cases e : i = l
      · rw [e, if_neg (fun z => absurd z.1 (Nat.lt_irrefl l)), if_neg (fun z => by rw [hb] at z; exact absurd z.2 (by decide))]
      · by_cases g : i < l ∧ bitB x i = true
        · rw [if_pos g, if_pos ⟨by omega, g.2⟩]
        · rw [if_neg g, if_neg (fun z => g ⟨by omega, z.2⟩)]
    | true =>
      rw [hb] at hbl
      have hwl : mI M 97 l = mI M0 97 l := by rw [hw l (by omega), if_neg (fun z => absurd z.1 (Nat.lt_irrefl l))]
      simp +decide only [e_28_3, e_28_4, e_28_7, e_28_8, e_28_9, e_28_12, e_28_15, e_28_16, e_28_19, e_28_20, e_28_21, e_28_22, e_28_23, e_28_24, e_28_25, e_28_26, e_28_27, e_28_30, ↓reduceIte, Int32.reduceAdd, Int32.reduceSub, an_0, an_1, an_2, an_3, an_4, an_5, tc_0, tc_1, tc_2, tc_3, tc_4, tc_5, tc_6, tc_7, tc_8, tc_9, tc_10, tc_11, tc_12, tc_13, tc_14, tc_15, tc_16, tc_17, tc_18, tc_19, tc_20, tc_21, tc_22, tc_23, tc_24, tc_25, tc_26, tc_27, tc_28, tc_29, tc_30, tc_31, tc_32, lcl_none, lcl_int, lcl_ref, lcl_null, lcl_long, okR_nil, okR_int, okR_ref, okR_null, okR_long, pushR_some, pushR_none, va_rf_some, va_rf_none, true_and, and_true, true_implies, false_implies, not_true_eq_false, not_false_eq_true, implies_true, bI_eq0, bI_eq1, bI_01, Classical.not_not, or_em, false_and, and_false, hS.1, hS.2.1, hS.2.2.1, hS.2.2.2.1, kT_0, kT_1, kT_2, kT_15, kT_16, kT_17, kT_18, kT_19, kT_80, kT_81, kT_82, kT_89, kT_90, kT_91, kT_92, kT_93, kT_94, kT_95, kT_96, kT_97, kT_98, kT_99, kT_100, kT_101, nT_2, nT_16, nT_17, nT_19, nT_81, nT_82, nT_90, nT_91, nT_94, nT_95, nT_97, nT_98, nT_100, nT_101, rT_0_0, rT_0_3, rT_0_4, rT_0_5, rT_0_6, rT_0_7, rT_0_8, rT_0_9, rT_0_10, rT_1_0, rT_15_0, rT_15_1, rT_18_0, rT_80_0, rT_80_1, rT_89_0, rT_89_1, rT_93_6, rT_93_7, rT_96_0, rT_96_1, rT_99_0, rT_99_1, h1, c_isIn (d := 1) (by decide), hbl, hcl, hin, hsh, hwl, nI_1]
      refine ih (l + 1) _ (by omega) hS (fun c hc => by rw [mI_wI_ne hc]; exact hf c hc) (fun i hi => ?_)
      rw [mI_wI]
      by_cases e : i = l
      · rw [if_pos ⟨rfl, e⟩, e, if_pos ⟨by omega, hb⟩]
      · rw [if_neg (fun z => e z.2), hw i hi]
        by_cases g : i < l ∧ bitB x i = true
        · rw [if_pos g, if_pos ⟨by omega, g.2⟩]
        · rw [if_neg g, if_neg (fun z => g ⟨by omega, z.2⟩)]
theorem c_offer {d x j : Nat} {b : Bool} {M : ab_M} (hd : 2 ≤ d) (hS : Sh b M) (hx : x < 32) (hj : j < 5) : EvD d 28 [.ref 96, .int (nI j), .int (nI x)] M (fun r M1 => r = none ∧ Sh b M1 ∧ (∀ c, c ≠ 97 → mI M1 c = mI M c) ∧ ∀ l, l < 5 → mI M1 97 l = if bitB x l = true then mI M 97 l ||| nI (2 ^ j) else mI M 97 l) := by
  rw [b_28 hd]
  simp +decide only [e_28_0, e_28_1, ↓reduceIte, Int32.reduceAdd, Int32.reduceSub, an_0, an_1, an_2, an_3, an_4, an_5, tc_0, tc_1, tc_2, tc_3, tc_4, tc_5, tc_6, tc_7, tc_8, tc_9, tc_10, tc_11, tc_12, tc_13, tc_14, tc_15, tc_16, tc_17, tc_18, tc_19, tc_20, tc_21, tc_22, tc_23, tc_24, tc_25, tc_26, tc_27, tc_28, tc_29, tc_30, tc_31, tc_32, lcl_none, lcl_int, lcl_ref, lcl_null, lcl_long, okR_nil, okR_int, okR_ref, okR_null, okR_long, pushR_some, pushR_none, va_rf_some, va_rf_none, true_and, and_true, true_implies, false_implies, not_true_eq_false, not_false_eq_true, implies_true, bI_eq0, bI_eq1, bI_01, Classical.not_not, or_em, false_and, and_false]
  exact L_of hx hj (fun M1 h1 h2 h3 => ⟨rfl, h1, h2, h3⟩) 5 0 M (by omega) hS (fun _ _ => rfl) (fun i hi => by rw [if_neg (fun z => absurd z.1 (Nat.not_lt_zero i))])
def nuB (σ : Sg) (L P n a l s : Nat) : Bool := bitB a l && !gB (wC σ L P s n) a l
def nuU (σ : Sg) (L P n a l : Nat) : Nat := setN (nuB σ L P n a l) P
theorem L_nuC {L P a n l0 : Nat} {b : Bool} {σ : Sg} {M0 : ab_M} {Q : ab_Q} (hC0 : RC b M0 σ) (hI : IV L P σ) (ha : σ 5 10 = nI a) (haL : a < 2 ^ L) (hn : n ≤ 20) (hQ : ∀ M1, Sh b M1 → (∀ c, c ≠ 93 → c ≠ 97 → c ≠ 98 → mI M1 c = mI M0 c) → (∀ l, l < 5 → mI M1 97 l = nI (nuU σ L P n a l)) → Ev 9 91 117 [some (.ref 0), some (.int (nI l0)), some (.int (nI n)), some (.int (nI P))] [] M1 Q) : ∀ m j M, j + m = P → Sh b M → (∀ c, c ≠ 93 → c ≠ 97 → c ≠ 98 → mI M c = mI M0 c) → (∀ l, l < 5 → mI M 97 l = nI (setN (nuB σ L P n a l) j)) → Ev 9 91 33 [some (.ref 0), some (.int (nI l0)), some (.int (nI n)), some (.int (nI j))] [] M Q := by
  obtain ⟨hL, hP, iL, iP⟩ := IV_n hI
  have h32 := pow_L hL
  intro m
  induction m with
  | zero =>
    intro j M hj hS hf hw
    have hC : RC b M σ := RC_scr hC0 (fun a ha => hf a (by omega) (by omega) (by omega))
    have a2 : mI M (chL b) 6 = nI P := hC.1.1.2.1.trans iP
    have h1 : (nI P ≤ nI j) = True := by rw [nI_leE (by omega) (by omega)]; exact eq_true (by omega)
    rw [e_91_33]
    simp +decide only [e_91_34, e_91_35, e_91_38, e_91_41, ↓reduceIte, Int32.reduceAdd, Int32.reduceSub, an_0, an_1, an_2, an_3, an_4, an_5, tc_0, tc_1, tc_2, tc_3, tc_4, tc_5, tc_6, tc_7, tc_8, tc_9, tc_10, tc_11, tc_12, tc_13, tc_14, tc_15, tc_16, tc_17, tc_18, tc_19, tc_20, tc_21, tc_22, tc_23, tc_24, tc_25, tc_26, tc_27, tc_28, tc_29, tc_30, tc_31, tc_32, lcl_none, lcl_int, lcl_ref, lcl_null, lcl_long, okR_nil, okR_int, okR_ref, okR_null, okR_long, pushR_some, pushR_none, va_rf_some, va_rf_none, true_and, and_true, true_implies, false_implies, not_true_eq_false, not_false_eq_true, implies_true, bI_eq0, bI_eq1, bI_01, Classical.not_not, or_em, false_and, and_false, hS.1, hS.2.1, hS.2.2.1, hS.2.2.2.1, kT_0, kT_1, kT_2, kT_15, kT_16, kT_17, kT_18, kT_19, kT_80, kT_81, kT_82, kT_89, kT_90, kT_91, kT_92, kT_93, kT_94, kT_95, kT_96, kT_97, kT_98, kT_99, kT_100, kT_101, nT_2, nT_16, nT_17, nT_19, nT_81, nT_82, nT_90, nT_91, nT_94, nT_95, nT_97, nT_98, nT_100, nT_101, rT_0_0, rT_0_3, rT_0_4, rT_0_5, rT_0_6, rT_0_7, rT_0_8, rT_0_9, rT_0_10, rT_1_0, rT_15_0, rT_15_1, rT_18_0, rT_80_0, rT_80_1, rT_89_0, rT_89_1, rT_93_6, rT_93_7, rT_96_0, rT_96_1, rT_99_0, rT_99_1, chS1, chK, chR7, chK7, chN7, chR8, chK8, chN8, chR9, chK9, chN9, chR10, chK10, chN10, chR11, chK11, chN11, a2, h1]
    rw [show j = P by omega] at hw ⊢
    exact hQ M hS hf hw
  | succ m ih =>
    intro j M hj hS hf hw
    have hC : RC b M σ := RC_scr hC0 (fun a ha => hf a (by omega) (by omega) (by omega))
    have a2 : mI M (chL b) 6 = nI P := hC.1.1.2.1.trans iP
    have h1 : (nI P ≤ nI j) = False := by rw [nI_leE (by omega) (by omega)]; exact eq_false (by omega)
    rw [e_91_33]
    simp +decide only [e_91_34, e_91_35, e_91_38, e_91_41, e_91_44, e_91_45, e_91_48, e_91_49, e_91_52, e_91_53, e_91_56, e_91_57, ↓reduceIte, Int32.reduceAdd, Int32.reduceSub, an_0, an_1, an_2, an_3, an_4, an_5, tc_0, tc_1, tc_2, tc_3, tc_4, tc_5, tc_6, tc_7, tc_8, tc_9, tc_10, tc_11, tc_12, tc_13, tc_14, tc_15, tc_16, tc_17, tc_18, tc_19, tc_20, tc_21, tc_22, tc_23, tc_24, tc_25, tc_26, tc_27, tc_28, tc_29, tc_30, tc_31, tc_32, lcl_none, lcl_int, lcl_ref, lcl_null, lcl_long, okR_nil, okR_int, okR_ref, okR_null, okR_long, pushR_some, pushR_none, va_rf_some, va_rf_none, true_and, and_true, true_implies, false_implies, not_true_eq_false, not_false_eq_true, implies_true, bI_eq0, bI_eq1, bI_01, Classical.not_not, or_em, false_and, and_false, hS.1, hS.2.1, hS.2.2.1, hS.2.2.2.1, kT_0, kT_1, kT_2, kT_15, kT_16, kT_17, kT_18, kT_19, kT_80, kT_81, kT_82, kT_89, kT_90, kT_91, kT_92, kT_93, kT_94, kT_95, kT_96, kT_97, kT_98, kT_99, kT_100, kT_101, nT_2, nT_16, nT_17, nT_19, nT_81, nT_82, nT_90, nT_91, nT_94, nT_95, nT_97, nT_98, nT_100, nT_101, rT_0_0, rT_0_3, rT_0_4, rT_0_5, rT_0_6, rT_0_7, rT_0_8, rT_0_9, rT_0_10, rT_1_0, rT_15_0, rT_15_1, rT_18_0, rT_80_0, rT_80_1, rT_89_0, rT_89_1, rT_93_6, rT_93_7, rT_96_0, rT_96_1, rT_99_0, rT_99_1, chS1, chK, chR7, chK7, chN7, chR8, chK8, chN8, chR9, chK9, chN9, chR10, chK10, chN10, chR11, chK11, chN11, a2, h1]
    refine EvD_mono (c_asNow (d := 9) (by decide) hS hC hI) ?_
    rintro r M1 ⟨rfl, hS1, hT1, hf1⟩
    simp +decide only [e_91_60, e_91_61, e_91_64, e_91_65, e_91_68, e_91_69, ↓reduceIte, Int32.reduceAdd, Int32.reduceSub, an_0, an_1, an_2, an_3, an_4, an_5, tc_0, tc_1, tc_2, tc_3, tc_4, tc_5, tc_6, tc_7, tc_8, tc_9, tc_10, tc_11, tc_12, tc_13, tc_14, tc_15, tc_16, tc_17, tc_18, tc_19, tc_20, tc_21, tc_22, tc_23, tc_24, tc_25, tc_26, tc_27, tc_28, tc_29, tc_30, tc_31, tc_32, lcl_none, lcl_int, lcl_ref, lcl_null, lcl_long, okR_nil, okR_int, okR_ref, okR_null, okR_long, pushR_some, pushR_none, va_rf_some, va_rf_none, true_and, and_true, true_implies, false_implies, not_true_eq_false, not_false_eq_true, implies_true, bI_eq0, bI_eq1, bI_01, Classical.not_not, or_em, false_and, and_false, hS1.1, hS1.2.1, hS1.2.2.1, hS1.2.2.2.1, kT_0, kT_1, kT_2, kT_15, kT_16, kT_17, kT_18, kT_19, kT_80, kT_81, kT_82, kT_89, kT_90, kT_91, kT_92, kT_93, kT_94, kT_95, kT_96, kT_97, kT_98, kT_99, kT_100, kT_101, nT_2, nT_16, nT_17, nT_19, nT_81, nT_82, nT_90, nT_91, nT_94, nT_95, nT_97, nT_98, nT_100, nT_101, rT_0_0, rT_0_3, rT_0_4, rT_0_5, rT_0_6, rT_0_7, rT_0_8, rT_0_9, rT_0_10, rT_1_0, rT_15_0, rT_15_1, rT_18_0, rT_80_0, rT_80_1, rT_89_0, rT_89_1, rT_93_6, rT_93_7, rT_96_0, rT_96_1, rT_99_0, rT_99_1, chS1, chK, chR7, chK7, chN7, chR8, chK8, chN8, chR9, chK9, chN9, chR10, chK10, chN10, chR11, chK11, chN11]
    refine EvD_mono (C_look (d := 9) (by decide) hS1 (TR_of hI (show j < P by omega)) hT1 hn) ?_
    rintro r M2 ⟨rfl, hW2, hf2⟩
    have hS2 := hW2.1
    have hf3 : ∀ c, c ≠ 93 → mI M2 c = mI M c := fun c hc => by rw [hf2 c hc, hf1 c hc]
    have hC2 : RC b M2 σ := RC_93 hC hf3
    have n3 : mI M2 15 2 = nI a := hC2.2.2.1.2.2.1.trans ha
    have hdth : ∀ K, EvD 9 71 [.ref 93, .int (nI a), .int (nI a)] M2 K = K (some (.int (nI (setN (dgB (wC σ L P j n) a a) 5)))) M2 := fun K => c_deaths (d := 9) (f := wC σ L P j n) (by decide) hW2 hL haL (by omega) (wC_30 hI (by omega) hn)
    have h5 := setN_lt (dgB (wC σ L P j n) a a) 5
    have hot : nI a &&& (nI (setN (dgB (wC σ L P j n) a a) 5) ^^^ (-1)) = nI (a &&& (31 - setN (dgB (wC σ L P j n) a a) 5)) := ot_nI a (by omega) _ (by omega)
    simp +decide only [e_91_72, e_91_73, e_91_76, e_91_77, e_91_78, e_91_81, e_91_84, e_91_85, e_91_88, e_91_89, e_91_92, e_91_95, e_91_96, e_91_99, e_91_102, e_91_105, e_91_106, e_91_107, e_91_108, ↓reduceIte, Int32.reduceAdd, Int32.reduceSub, an_0, an_1, an_2, an_3, an_4, an_5, tc_0, tc_1, tc_2, tc_3, tc_4, tc_5, tc_6, tc_7, tc_8, tc_9, tc_10, tc_11, tc_12, tc_13, tc_14, tc_15, tc_16, tc_17, tc_18, tc_19, tc_20, tc_21, tc_22, tc_23, tc_24, tc_25, tc_26, tc_27, tc_28, tc_29, tc_30, tc_31, tc_32, lcl_none, lcl_int, lcl_ref, lcl_null, lcl_long, okR_nil, okR_int, okR_ref, okR_null, okR_long, pushR_some, pushR_none, va_rf_some, va_rf_none, true_and, and_true, true_implies, false_implies, not_true_eq_false, not_false_eq_true, implies_true, bI_eq0, bI_eq1, bI_01, Classical.not_not, or_em, false_and, and_false, hS2.1, hS2.2.1, hS2.2.2.1, hS2.2.2.2.1, kT_0, kT_1, kT_2, kT_15, kT_16, kT_17, kT_18, kT_19, kT_80, kT_81, kT_82, kT_89, kT_90, kT_91, kT_92, kT_93, kT_94, kT_95, kT_96, kT_97, kT_98, kT_99, kT_100, kT_101, nT_2, nT_16, nT_17, nT_19, nT_81, nT_82, nT_90, nT_91, nT_94, nT_95, nT_97, nT_98, nT_100, nT_101, rT_0_0, rT_0_3, rT_0_4, rT_0_5, rT_0_6, rT_0_7, rT_0_8, rT_0_9, rT_0_10, rT_1_0, rT_15_0, rT_15_1, rT_18_0, rT_80_0, rT_80_1, rT_89_0, rT_89_1, rT_93_6, rT_93_7, rT_96_0, rT_96_1, rT_99_0, rT_99_1, chS1, chK, chR7, chK7, chN7, chR8, chK8, chN8, chR9, chK9, chN9, chR10, chK10, chN10, chR11, chK11, chN11, n3, hdth, hot]
    refine EvD_mono (c_offer (d := 9) (by decide) hS2 (Nat.lt_of_le_of_lt Nat.and_le_left (by omega)) (show j < 5 by omega)) ?_
    rintro r M3 ⟨rfl, hS3, hf4, hw4⟩
    simp +decide only [e_91_111, e_91_114, ↓reduceIte, Int32.reduceAdd, Int32.reduceSub, an_0, an_1, an_2, an_3, an_4, an_5, tc_0, tc_1, tc_2, tc_3, tc_4, tc_5, tc_6, tc_7, tc_8, tc_9, tc_10, tc_11, tc_12, tc_13, tc_14, tc_15, tc_16, tc_17, tc_18, tc_19, tc_20, tc_21, tc_22, tc_23, tc_24, tc_25, tc_26, tc_27, tc_28, tc_29, tc_30, tc_31, tc_32, lcl_none, lcl_int, lcl_ref, lcl_null, lcl_long, okR_nil, okR_int, okR_ref, okR_null, okR_long, pushR_some, pushR_none, va_rf_some, va_rf_none, true_and, and_true, true_implies, false_implies, not_true_eq_false, not_false_eq_true, implies_true, bI_eq0, bI_eq1, bI_01, Classical.not_not, or_em, false_and, and_false, nI_1]
    refine ih (j + 1) M3 (by omega) hS3 (fun c h93 h97 h98 => by rw [hf4 c h97, hf3 c h93, hf c h93 h97 h98]) (fun l hl => ?_)
    have hb : bitB (a &&& (31 - setN (dgB (wC σ L P j n) a a) 5)) l = nuB σ L P n a l j := by
      rw [ot_bit a (by omega) _ (by omega) l hl, setN_bit 5 l hl]
      unfold dgB nuB
      cases bitB a l <;> cases gB (wC σ L P j n) a l <;> rfl
    have es : setN (nuB σ L P n a l) (j + 1) = setN (nuB σ L P n a l) j + if nuB σ L P n a l j = true then 2 ^ j else 0 := rfl
    rw [hw4 l hl, hb, es, hf3 97 (by decide), hw l hl]
    have hor := or_sh j (by omega) _ (setN_lt (nuB σ L P n a l) j)
    rw [shl_nI j (by omega)] at hor
    by_cases hn2 : nuB σ L P n a l j = true
    · rw [if_pos hn2, if_pos hn2, hor]
    · rw [if_neg hn2, if_neg hn2, Nat.add_zero (setN _ _)]
def nuA (σ : Sg) (L P n a l : Nat) : Int32 := match btN (fun i => nuU σ L P n a (lfI a i)) P (plN a 5) 0 0 with
  | some c => nI (dgt P (plN a 5) c (plN a l))
  | none => -1
theorem c_nurseOf {L P a n l : Nat} {b : Bool} {σ : Sg} {M : ab_M} (hS : Sh b M) (ha : a < 32) (hP : P ≤ 5) (hl : l < 5) (hal : bitB a l = true) (hw : ∀ l, l < 5 → mI M 97 l = nI (nuU σ L P n a l)) : EvD 9 29 [.ref 96, .int (nI l), .int (nI a)] M (fun r M1 => r = some (.int (nuA σ L P n a l)) ∧ Sh b M1 ∧ ∀ c, c ≠ 98 → mI M1 c = mI M c) := by
  have z0 : (nI l < 0) = False := eq_false (nI_pos (by omega))
  have z1 : (0 ≤ nI l) = True := eq_true (nI_pos' (by omega))
  have z2 : (nI l < 5) = True := by rw [show (5 : Int32) = nI 5 from rfl, nI_ltE (by omega) (by decide)]; exact eq_true (by omega)
  have z3 : (5 ≤ nI l) = False := by rw [show (5 : Int32) = nI 5 from rfl, nI_leE (by decide) (by omega)]; exact eq_false (by omega)
  have hbl := hasB_b (x := a) (l := l) ha hl
  rw [hal] at hbl
  have hcl : (nI l).toNatClampNeg = l := nI_clamp (by omega)
  have hin : inX (nI l) 5 = True := eq_true (inX_nI (by decide) hl)
  have hch := C_choose (a := a) (P := P) (k := plN a 5) (U := nuU σ L P n a) (b := b) (fun l => setN_lt _ P) ha hP rfl 5 0 (by omega) 0 M (by decide) hS (fun l hl _ => hw l hl)
  rw [b_29 (by decide)]
  simp +decide only [e_29_0, e_29_1, e_29_4, e_29_5, e_29_6, e_29_9, e_29_10, e_29_13, e_29_14, e_29_15, e_29_16, e_29_19, e_29_20, e_29_21, e_29_24, e_29_27, e_29_28, e_29_31, e_29_32, e_29_35, e_29_36, e_29_37, e_29_38, ↓reduceIte, Int32.reduceAdd, Int32.reduceSub, an_0, an_1, an_2, an_3, an_4, an_5, tc_0, tc_1, tc_2, tc_3, tc_4, tc_5, tc_6, tc_7, tc_8, tc_9, tc_10, tc_11, tc_12, tc_13, tc_14, tc_15, tc_16, tc_17, tc_18, tc_19, tc_20, tc_21, tc_22, tc_23, tc_24, tc_25, tc_26, tc_27, tc_28, tc_29, tc_30, tc_31, tc_32, lcl_none, lcl_int, lcl_ref, lcl_null, lcl_long, okR_nil, okR_int, okR_ref, okR_null, okR_long, pushR_some, pushR_none, va_rf_some, va_rf_none, true_and, and_true, true_implies, false_implies, not_true_eq_false, not_false_eq_true, implies_true, bI_eq0, bI_eq1, bI_01, Classical.not_not, or_em, false_and, and_false, hS.1, hS.2.1, hS.2.2.1, hS.2.2.2.1, kT_0, kT_1, kT_2, kT_15, kT_16, kT_17, kT_18, kT_19, kT_80, kT_81, kT_82, kT_89, kT_90, kT_91, kT_92, kT_93, kT_94, kT_95, kT_96, kT_97, kT_98, kT_99, kT_100, kT_101, nT_2, nT_16, nT_17, nT_19, nT_81, nT_82, nT_90, nT_91, nT_94, nT_95, nT_97, nT_98, nT_100, nT_101, rT_0_0, rT_0_3, rT_0_4, rT_0_5, rT_0_6, rT_0_7, rT_0_8, rT_0_9, rT_0_10, rT_1_0, rT_15_0, rT_15_1, rT_18_0, rT_80_0, rT_80_1, rT_89_0, rT_89_1, rT_93_6, rT_93_7, rT_96_0, rT_96_1, rT_99_0, rT_99_1, z0, z1, z2, z3, c_isIn (d := 8) (by decide), hbl]
  refine EvD_mono hch ?_
  rintro r M1 ⟨h1, h2, -, h4, h5⟩
  have e0 : btN (fun i => nuU σ L P n a (lfI a i)) P (plN a 5 - plN a 0) 0 (plN a 0) = btN (fun i => nuU σ L P n a (lfI a i)) P (plN a 5) 0 0 := rfl
  rw [e0] at h4 h5
  unfold nuA
  cases ho : btN (fun i => nuU σ L P n a (lfI a i)) P (plN a 5) 0 0 with
  | none =>
    rw [h4 ho]
    simp +decide only [e_29_41, e_29_44, e_29_45, ↓reduceIte, Int32.reduceAdd, Int32.reduceSub, an_0, an_1, an_2, an_3, an_4, an_5, tc_0, tc_1, tc_2, tc_3, tc_4, tc_5, tc_6, tc_7, tc_8, tc_9, tc_10, tc_11, tc_12, tc_13, tc_14, tc_15, tc_16, tc_17, tc_18, tc_19, tc_20, tc_21, tc_22, tc_23, tc_24, tc_25, tc_26, tc_27, tc_28, tc_29, tc_30, tc_31, tc_32, lcl_none, lcl_int, lcl_ref, lcl_null, lcl_long, okR_nil, okR_int, okR_ref, okR_null, okR_long, pushR_some, pushR_none, va_rf_some, va_rf_none, true_and, and_true, true_implies, false_implies, not_true_eq_false, not_false_eq_true, implies_true, bI_eq0, bI_eq1, bI_01, Classical.not_not, or_em, false_and, and_false]
    exact ⟨h1, h2⟩
  | some c =>
    have hc := (h5 c ho).2 l (by omega) hl hal
    rw [(h5 c ho).1]
    simp +decide only [e_29_41, e_29_44, e_29_45, e_29_46, e_29_47, e_29_50, e_29_51, e_29_52, ↓reduceIte, Int32.reduceAdd, Int32.reduceSub, an_0, an_1, an_2, an_3, an_4, an_5, tc_0, tc_1, tc_2, tc_3, tc_4, tc_5, tc_6, tc_7, tc_8, tc_9, tc_10, tc_11, tc_12, tc_13, tc_14, tc_15, tc_16, tc_17, tc_18, tc_19, tc_20, tc_21, tc_22, tc_23, tc_24, tc_25, tc_26, tc_27, tc_28, tc_29, tc_30, tc_31, tc_32, lcl_none, lcl_int, lcl_ref, lcl_null, lcl_long, okR_nil, okR_int, okR_ref, okR_null, okR_long, pushR_some, pushR_none, va_rf_some, va_rf_none, true_and, and_true, true_implies, false_implies, not_true_eq_false, not_false_eq_true, implies_true, bI_eq0, bI_eq1, bI_01, Classical.not_not, or_em, false_and, and_false, h1.1, h1.2.1, h1.2.2.1, kT_0, kT_1, kT_2, kT_15, kT_16, kT_17, kT_18, kT_19, kT_80, kT_81, kT_82, kT_89, kT_90, kT_91, kT_92, kT_93, kT_94, kT_95, kT_96, kT_97, kT_98, kT_99, kT_100, kT_101, nT_2, nT_16, nT_17, nT_19, nT_81, nT_82, nT_90, nT_91, nT_94, nT_95, nT_97, nT_98, nT_100, nT_101, rT_0_0, rT_0_3, rT_0_4, rT_0_5, rT_0_6, rT_0_7, rT_0_8, rT_0_9, rT_0_10, rT_1_0, rT_15_0, rT_15_1, rT_18_0, rT_80_0, rT_80_1, rT_89_0, rT_89_1, rT_93_6, rT_93_7, rT_96_0, rT_96_1, rT_99_0, rT_99_1, hcl, hin, hc]
    exact ⟨h1, h2⟩
