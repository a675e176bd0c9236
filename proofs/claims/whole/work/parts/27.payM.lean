/-! pay, the model's side -/
def hbN (S : Nat → Int32) (s : Int32) : Nat → Nat
  | 0 => 0
  | l + 1 => hbN S s l + (if S (5 + l) = s then 2 ^ l else 0)
theorem hbN_lt (S : Nat → Int32) (s : Int32) : ∀ l, hbN S s l < 2 ^ l := by
  intro l
  induction l with
  | zero => exact Nat.lt_succ_self 0
  | succ l ih =>
    unfold hbN
    rw [Nat.pow_succ]
    split <;> omega
theorem hbN_5 (S : Nat → Int32) (s : Int32) : hbN S s 5 = hsN S s := by
  unfold hsN
  simp only [hbN, Nat.zero_add]
theorem hbN_up {S : Nat → Int32} {s : Int32} {L : Nat} (h : ∀ k, k < 5 → L ≤ k → S (5 + k) ≠ s) : ∀ m l, L ≤ l → l + m = 5 → hbN S s 5 = hbN S s l := by
  intro m
  induction m with
  | zero => intro l _ e; rw [show l = 5 by omega]
  | succ m ih =>
    intro l h1 e
    rw [ih (l + 1) (by omega) (by omega)]
    show hbN S s l + _ = _
    rw [if_neg (h l (by omega) h1)]
    rfl
theorem or_sh : ∀ l, l < 5 → ∀ h, h < 2 ^ l → nI h ||| (1 <<< (nI l &&& 31)) = nI (h + 2 ^ l) := by decide +kernel
theorem shl_nI : ∀ l, l < 5 → (1 : Int32) <<< (nI l &&& 31) = nI (2 ^ l) := by decide +kernel
set_option maxRecDepth 100000 in
theorem L_heldM {d L : Nat} {b : Bool} {s : Int32} {S : Nat → Int32} {M : ab_M} {K : ab_Q} (hS : Sh b M) (hL : L ≤ 5) (hl : mI M 102 16 = nI L) (hN : ∀ k, k < 14 → mI M 111 k = S k) : ∀ m l, l + m = L → Ev d 140 4 [some (.ref 102), some (.int s), some (.int (nI (hbN S s l))), some (.int (nI l))] [] M K = K (some (.int (nI (hbN S s L)))) M := by
  intro m
  induction m with
  | zero =>
    intro l e
    have h1 : (nI L ≤ nI l) = True := by rw [nI_leE (by omega) (by omega)]; exact eq_true (by omega)
    rw [e_140_4]
    simp +decide only [e_140_0, e_140_1, e_140_2, e_140_3, e_140_5, e_140_6, e_140_9, e_140_12, e_140_13, e_140_14, e_140_17, e_140_18, e_140_19, e_140_20, e_140_21, e_140_22, e_140_25, e_140_26, e_140_27, e_140_28, e_140_31, e_140_32, e_140_33, e_140_34, e_140_37, e_140_40, e_140_41, ↓reduceIte, Int32.reduceAdd, Int32.reduceSub, an_0, an_1, an_2, an_3, an_4, an_5, tc_0, tc_1, tc_2, tc_3, tc_4, tc_5, tc_6, tc_7, tc_8, tc_9, tc_10, tc_11, tc_12, tc_13, tc_14, tc_15, tc_16, tc_17, tc_18, tc_19, tc_20, tc_21, tc_22, tc_23, tc_24, tc_25, tc_26, tc_27, tc_28, tc_29, tc_30, tc_31, tc_32, lcl_none, lcl_int, lcl_ref, lcl_null, lcl_long, okR_nil, okR_int, okR_ref, okR_null, okR_long, pushR_some, pushR_none, va_rf_some, va_rf_none, true_and, and_true, true_implies, false_implies, not_true_eq_false, not_false_eq_true, implies_true, bI_eq0, bI_eq1, bI_01, Classical.not_not, or_em, false_and, and_false, hS.1, hS.2.1, hS.2.2.1, hS.2.2.2.1, kT_102, kT_103, kT_104, kT_105, kT_106, kT_107, kT_108, kT_109, kT_110, kT_111, kT_112, kT_113, kT_114, kT_115, kT_116, kT_117, kT_118, kT_119, kT_120, nT_103, nT_104, nT_105, nT_106, nT_107, nT_108, nT_109, nT_110, nT_111, nT_112, nT_113, nT_114, nT_115, nT_116, nT_117, nT_118, nT_119, nT_120, rT_102_1, rT_102_12, rT_102_13, rT_102_14, rT_102_18, rT_102_19, rT_102_20, rT_102_21, rT_102_22, rT_102_23, rT_102_25, rT_102_26, rT_102_27, rT_102_30, rT_102_31, rT_102_32, rT_102_33, rT_102_34, hl, h1]
    rw [show l = L by omega]
  | succ m ih =>
    intro l e
    have h1 : (nI L ≤ nI l) = False := by rw [nI_leE (by omega) (by omega)]; exact eq_false (by omega)
    have e5 : 5 + nI l = nI (5 + l) := nI_add 5 l
    have hcl : (nI (5 + l)).toNatClampNeg = 5 + l := nI_clamp (by omega)
    have hin : inX (nI (5 + l)) 14 = True := eq_true (inX_nI (by decide) (by omega))
    have e1 := hN (5 + l) (by omega)
    have e6 := or_sh l (by omega) (hbN S s l) (hbN_lt S s l)
    have e7 : ∀ x : Int32, x ||| 0 = x := fun x => by simp
    have hi := ih (l + 1) (by omega)
    rw [e_140_4]
    by_cases c : S (5 + l) = s
    · have e8 : hbN S s (l + 1) = hbN S s l + 2 ^ l := by show _ + _ = _; rw [if_pos c]
      rw [e8] at hi
      simp +decide only [e_140_0, e_140_1, e_140_2, e_140_3, e_140_5, e_140_6, e_140_9, e_140_12, e_140_13, e_140_14, e_140_17, e_140_18, e_140_19, e_140_20, e_140_21, e_140_22, e_140_25, e_140_26, e_140_27, e_140_28, e_140_31, e_140_32, e_140_33, e_140_34, e_140_37, e_140_40, e_140_41, ↓reduceIte, Int32.reduceAdd, Int32.reduceSub, an_0, an_1, an_2, an_3, an_4, an_5, tc_0, tc_1, tc_2, tc_3, tc_4, tc_5, tc_6, tc_7, tc_8, tc_9, tc_10, tc_11, tc_12, tc_13, tc_14, tc_15, tc_16, tc_17, tc_18, tc_19, tc_20, tc_21, tc_22, tc_23, tc_24, tc_25, tc_26, tc_27, tc_28, tc_29, tc_30, tc_31, tc_32, lcl_none, lcl_int, lcl_ref, lcl_null, lcl_long, okR_nil, okR_int, okR_ref, okR_null, okR_long, pushR_some, pushR_none, va_rf_some, va_rf_none, true_and, and_true, true_implies, false_implies, not_true_eq_false, not_false_eq_true, implies_true, bI_eq0, bI_eq1, bI_01, Classical.not_not, or_em, false_and, and_false, hS.1, hS.2.1, hS.2.2.1, hS.2.2.2.1, kT_102, kT_103, kT_104, kT_105, kT_106, kT_107, kT_108, kT_109, kT_110, kT_111, kT_112, kT_113, kT_114, kT_115, kT_116, kT_117, kT_118, kT_119, kT_120, nT_103, nT_104, nT_105, nT_106, nT_107, nT_108, nT_109, nT_110, nT_111, nT_112, nT_113, nT_114, nT_115, nT_116, nT_117, nT_118, nT_119, nT_120, rT_102_1, rT_102_12, rT_102_13, rT_102_14, rT_102_18, rT_102_19, rT_102_20, rT_102_21, rT_102_22, rT_102_23, rT_102_25, rT_102_26, rT_102_27, rT_102_30, rT_102_31, rT_102_32, rT_102_33, rT_102_34, hl, h1, e5, hcl, hin, e1, c, e6, nI_1]
      exact hi
    · have e8 : hbN S s (l + 1) = hbN S s l := by show _ + _ = _; rw [if_neg c]; rfl
      rw [e8] at hi
      simp +decide only [e_140_0, e_140_1, e_140_2, e_140_3, e_140_5, e_140_6, e_140_9, e_140_12, e_140_13, e_140_14, e_140_17, e_140_18, e_140_19, e_140_20, e_140_21, e_140_22, e_140_25, e_140_26, e_140_27, e_140_28, e_140_31, e_140_32, e_140_33, e_140_34, e_140_37, e_140_40, e_140_41, ↓reduceIte, Int32.reduceAdd, Int32.reduceSub, an_0, an_1, an_2, an_3, an_4, an_5, tc_0, tc_1, tc_2, tc_3, tc_4, tc_5, tc_6, tc_7, tc_8, tc_9, tc_10, tc_11, tc_12, tc_13, tc_14, tc_15, tc_16, tc_17, tc_18, tc_19, tc_20, tc_21, tc_22, tc_23, tc_24, tc_25, tc_26, tc_27, tc_28, tc_29, tc_30, tc_31, tc_32, lcl_none, lcl_int, lcl_ref, lcl_null, lcl_long, okR_nil, okR_int, okR_ref, okR_null, okR_long, pushR_some, pushR_none, va_rf_some, va_rf_none, true_and, and_true, true_implies, false_implies, not_true_eq_false, not_false_eq_true, implies_true, bI_eq0, bI_eq1, bI_01, Classical.not_not, or_em, false_and, and_false, hS.1, hS.2.1, hS.2.2.1, hS.2.2.2.1, kT_102, kT_103, kT_104, kT_105, kT_106, kT_107, kT_108, kT_109, kT_110, kT_111, kT_112, kT_113, kT_114, kT_115, kT_116, kT_117, kT_118, kT_119, kT_120, nT_103, nT_104, nT_105, nT_106, nT_107, nT_108, nT_109, nT_110, nT_111, nT_112, nT_113, nT_114, nT_115, nT_116, nT_117, nT_118, nT_119, nT_120, rT_102_1, rT_102_12, rT_102_13, rT_102_14, rT_102_18, rT_102_19, rT_102_20, rT_102_21, rT_102_22, rT_102_23, rT_102_25, rT_102_26, rT_102_27, rT_102_30, rT_102_31, rT_102_32, rT_102_33, rT_102_34, hl, h1, e5, hcl, hin, e1, c, e7, nI_1]
      exact hi
theorem c_heldByM {d L : Nat} {b : Bool} {s : Int32} {S : Nat → Int32} {M : ab_M} {K : ab_Q} (hd : 1 ≤ d) (hS : Sh b M) (hL : L ≤ 5) (hl : mI M 102 16 = nI L) (hN : ∀ k, k < 14 → mI M 111 k = S k) (hz : ∀ k, k < 5 → L ≤ k → S (5 + k) = -1) (hs : s ≠ -1) : EvD d 140 [.ref 102, .int s] M K = K (some (.int (nI (hsN S s)))) M := by
  rw [b_140 hd]
  simp +decide only [e_140_0, e_140_1, e_140_2, e_140_3, ↓reduceIte, Int32.reduceAdd, Int32.reduceSub, an_0, an_1, an_2, an_3, an_4, an_5, tc_0, tc_1, tc_2, tc_3, tc_4, tc_5, tc_6, tc_7, tc_8, tc_9, tc_10, tc_11, tc_12, tc_13, tc_14, tc_15, tc_16, tc_17, tc_18, tc_19, tc_20, tc_21, tc_22, tc_23, tc_24, tc_25, tc_26, tc_27, tc_28, tc_29, tc_30, tc_31, tc_32, lcl_none, lcl_int, lcl_ref, lcl_null, lcl_long, okR_nil, okR_int, okR_ref, okR_null, okR_long, pushR_some, pushR_none, va_rf_some, va_rf_none, true_and, and_true, true_implies, false_implies, not_true_eq_false, not_false_eq_true, implies_true, bI_eq0, bI_eq1, bI_01, Classical.not_not, or_em, false_and, and_false]
  have h := L_heldM (d := 0) (s := s) (K := K) hS hL hl hN L 0 (by omega)
  refine Eq.trans h ?_
  rw [← hbN_5, hbN_up (fun k h1 h2 e => hs ((hz k h1 h2).symm.trans e).symm) (5 - L) L (Nat.le_refl L) (by omega)]
def cnN (S : Nat → Int32) (x : Nat) : Nat → Nat
  | 0 => 0
  | l + 1 => cnN S x l + (if x / 2 ^ l % 2 = 1 ∧ S (5 + l) ≠ -1 then 1 else 0)
theorem cnN_le (S : Nat → Int32) (x : Nat) : ∀ l, cnN S x l ≤ l := by
  intro l
  induction l with
  | zero => exact Nat.le_refl 0
  | succ l ih =>
    unfold cnN
    split <;> omega
theorem cnN_up {S : Nat → Int32} {x L : Nat} (h : ∀ k, k < 5 → L ≤ k → S (5 + k) = -1) : ∀ m l, L ≤ l → l + m = 5 → cnN S x 5 = cnN S x l := by
  intro m
  induction m with
  | zero => intro l _ e; rw [show l = 5 by omega]
  | succ m ih =>
    intro l h1 e
    rw [ih (l + 1) (by omega) (by omega)]
    show cnN S x l + _ = _
    rw [if_neg (fun z => z.2 (h l (by omega) h1))]
    rfl
theorem cnN_dec : ∀ (c0 c1 c2 c3 c4 : Bool), ∀ x, x < 32 → (((((0 + (if x % 2 = 1 ∧ c0 = false then 1 else 0)) + (if x / 2 % 2 = 1 ∧ c1 = false then 1 else 0)) + (if x / 4 % 2 = 1 ∧ c2 = false then 1 else 0)) + (if x / 8 % 2 = 1 ∧ c3 = false then 1 else 0)) + (if x / 16 % 2 = 1 ∧ c4 = false then 1 else 0)) = pop5 (((cond c0 0 1) + (cond c1 0 2) + (cond c2 0 4) + (cond c3 0 8) + (cond c4 0 16)) &&& x) := by decide +kernel
theorem cnN_5 (S : Nat → Int32) (x : Nat) (hx : x < 32) : cnN S x 5 = pop5 (haN S &&& x) := by
  have h := cnN_dec (S 5 == -1) (S 6 == -1) (S 7 == -1) (S 8 == -1) (S 9 == -1) x hx
  simp only [beq_eq_false_iff_ne, ne_eq] at h
  have hc : ∀ (k : Nat) (n : Nat), (cond (S k == -1) 0 n) = (if S k = -1 then 0 else n) := fun k n => by
    by_cases e : S k = -1
    · simp [e]
    · have e2 : (S k == -1) = false := beq_eq_false_iff_ne.mpr e
      rw [e2, if_neg e]
      rfl
  simp only [hc] at h
  unfold haN
  rw [← h]
  simp only [cnN, Nat.pow_zero, Nat.div_one, ne_eq]
theorem hasB_nI : ∀ x, x < 32 → ∀ l, l < 5 → hasB (nI x) (nI l) = decide (x / 2 ^ l % 2 = 1) := by decide +kernel
set_option maxRecDepth 100000 in
theorem L_cntM {L x : Nat} {b : Bool} {s : Int32} {S : Nat → Int32} {M : ab_M} {K : ab_Q} (hS : Sh b M) (hL : L ≤ 5) (hl : mI M 102 16 = nI L) (hN : ∀ k, k < 14 → mI M 111 k = S k) (hx : x < 32) : ∀ m l, l + m = L → Ev 1 141 5 [some (.ref 102), some (.int s), some (.int (nI x)), some (.int (nI (cnN S x l))), some (.int (nI l)), none] [] M K = Ev 1 141 50 [some (.ref 102), some (.int s), some (.int (nI x)), some (.int (nI (cnN S x L))), some (.int (nI L)), none] [] M K := by
  intro m
  induction m with
  | zero =>
    intro l e
    have h1 : (nI L ≤ nI l) = True := by rw [nI_leE (by omega) (by omega)]; exact eq_true (by omega)
    rw [e_141_5]
    simp +decide only [e_141_7, e_141_8, e_141_11, ↓reduceIte, Int32.reduceAdd, Int32.reduceSub, an_0, an_1, an_2, an_3, an_4, an_5, tc_0, tc_1, tc_2, tc_3, tc_4, tc_5, tc_6, tc_7, tc_8, tc_9, tc_10, tc_11, tc_12, tc_13, tc_14, tc_15, tc_16, tc_17, tc_18, tc_19, tc_20, tc_21, tc_22, tc_23, tc_24, tc_25, tc_26, tc_27, tc_28, tc_29, tc_30, tc_31, tc_32, lcl_none, lcl_int, lcl_ref, lcl_null, lcl_long, okR_nil, okR_int, okR_ref, okR_null, okR_long, pushR_some, pushR_none, va_rf_some, va_rf_none, true_and, and_true, true_implies, false_implies, not_true_eq_false, not_false_eq_true, implies_true, bI_eq0, bI_eq1, bI_01, Classical.not_not, or_em, false_and, and_false, hS.1, hS.2.1, hS.2.2.1, hS.2.2.2.1, kT_102, kT_103, kT_104, kT_105, kT_106, kT_107, kT_108, kT_109, kT_110, kT_111, kT_112, kT_113, kT_114, kT_115, kT_116, kT_117, kT_118, kT_119, kT_120, nT_103, nT_104, nT_105, nT_106, nT_107, nT_108, nT_109, nT_110, nT_111, nT_112, nT_113, nT_114, nT_115, nT_116, nT_117, nT_118, nT_119, nT_120, rT_102_1, rT_102_12, rT_102_13, rT_102_14, rT_102_18, rT_102_19, rT_102_20, rT_102_21, rT_102_22, rT_102_23, rT_102_25, rT_102_26, rT_102_27, rT_102_30, rT_102_31, rT_102_32, rT_102_33, rT_102_34, hl, h1]
    rw [show l = L by omega]
  | succ m ih =>
    intro l e
    have h1 : (nI L ≤ nI l) = False := by rw [nI_leE (by omega) (by omega)]; exact eq_false (by omega)
    have e5 : 5 + nI l = nI (5 + l) := nI_add 5 l
    have hcl : (nI (5 + l)).toNatClampNeg = 5 + l := nI_clamp (by omega)
    have hin : inX (nI (5 + l)) 14 = True := eq_true (inX_nI (by decide) (by omega))
    have e1 := hN (5 + l) (by omega)
    have e9 := hasB_nI x hx l (by omega)
    have e7 : ∀ y : Int32, y + 0 = y := Int32.add_zero
    have hi := ih (l + 1) (by omega)
    rw [e_141_5]
    by_cases c1 : x / 2 ^ l % 2 = 1
    · by_cases c : S (5 + l) = -1
      · have e8 : cnN S x (l + 1) = cnN S x l := by show _ + _ = _; rw [if_neg (fun z => z.2 c)]; rfl
        rw [e8] at hi
        simp +decide only [e_141_7, e_141_8, e_141_11, e_141_14, e_141_15, e_141_16, e_141_18, e_141_21, e_141_24, e_141_25, e_141_28, e_141_29, e_141_31, e_141_32, e_141_33, e_141_34, e_141_37, e_141_38, e_141_41, e_141_42, e_141_43, e_141_44, e_141_47, ↓reduceIte, Int32.reduceAdd, Int32.reduceSub, an_0, an_1, an_2, an_3, an_4, an_5, tc_0, tc_1, tc_2, tc_3, tc_4, tc_5, tc_6, tc_7, tc_8, tc_9, tc_10, tc_11, tc_12, tc_13, tc_14, tc_15, tc_16, tc_17, tc_18, tc_19, tc_20, tc_21, tc_22, tc_23, tc_24, tc_25, tc_26, tc_27, tc_28, tc_29, tc_30, tc_31, tc_32, lcl_none, lcl_int, lcl_ref, lcl_null, lcl_long, okR_nil, okR_int, okR_ref, okR_null, okR_long, pushR_some, pushR_none, va_rf_some, va_rf_none, true_and, and_true, true_implies, false_implies, not_true_eq_false, not_false_eq_true, implies_true, bI_eq0, bI_eq1, bI_01, Classical.not_not, or_em, false_and, and_false, hS.1, hS.2.1, hS.2.2.1, hS.2.2.2.1, kT_102, kT_103, kT_104, kT_105, kT_106, kT_107, kT_108, kT_109, kT_110, kT_111, kT_112, kT_113, kT_114, kT_115, kT_116, kT_117, kT_118, kT_119, kT_120, nT_103, nT_104, nT_105, nT_106, nT_107, nT_108, nT_109, nT_110, nT_111, nT_112, nT_113, nT_114, nT_115, nT_116, nT_117, nT_118, nT_119, nT_120, rT_102_1, rT_102_12, rT_102_13, rT_102_14, rT_102_18, rT_102_19, rT_102_20, rT_102_21, rT_102_22, rT_102_23, rT_102_25, rT_102_26, rT_102_27, rT_102_30, rT_102_31, rT_102_32, rT_102_33, rT_102_34, c_has, hl, h1, e5, hcl, hin, e1, e9, c1, c, e7, nI_1]
        exact hi
      · have e8 : cnN S x (l + 1) = cnN S x l + 1 := by show _ + _ = _; rw [if_pos ⟨c1, c⟩]
        rw [e8] at hi
        simp +decide only [e_141_7, e_141_8, e_141_11, e_141_14, e_141_15, e_141_16, e_141_18, e_141_21, e_141_24, e_141_25, e_141_28, e_141_29, e_141_31, e_141_32, e_141_33, e_141_34, e_141_37, e_141_38, e_141_41, e_141_42, e_141_43, e_141_44, e_141_47, ↓reduceIte, Int32.reduceAdd, Int32.reduceSub, an_0, an_1, an_2, an_3, an_4, an_5, tc_0, tc_1, tc_2, tc_3, tc_4, tc_5, tc_6, tc_7, tc_8, tc_9, tc_10, tc_11, tc_12, tc_13, tc_14, tc_15, tc_16, tc_17, tc_18, tc_19, tc_20, tc_21, tc_22, tc_23, tc_24, tc_25, tc_26, tc_27, tc_28, tc_29, tc_30, tc_31, tc_32, lcl_none, lcl_int, lcl_ref, lcl_null, lcl_long, okR_nil, okR_int, okR_ref, okR_null, okR_long, pushR_some, pushR_none, va_rf_some, va_rf_none, true_and, and_true, true_implies, false_implies, not_true_eq_false, not_false_eq_true, implies_true, bI_eq0, bI_eq1, bI_01, Classical.not_not, or_em, false_and, and_false, hS.1, hS.2.1, hS.2.2.1, hS.2.2.2.1, kT_102, kT_103, kT_104, kT_105, kT_106, kT_107, kT_108, kT_109, kT_110, kT_111, kT_112, kT_113, kT_114, kT_115, kT_116, kT_117, kT_118, kT_119, kT_120, nT_103, nT_104, nT_105, nT_106, nT_107, nT_108, nT_109, nT_110, nT_111, nT_112, nT_113, nT_114, nT_115, nT_116, nT_117, nT_118, nT_119, nT_120, rT_102_1, rT_102_12, rT_102_13, rT_102_14, rT_102_18, rT_102_19, rT_102_20, rT_102_21, rT_102_22, rT_102_23, rT_102_25, rT_102_26, rT_102_27, rT_102_30, rT_102_31, rT_102_32, rT_102_33, rT_102_34, c_has, hl, h1, e5, hcl, hin, e1, e9, c1, c, e7, nI_1]
        exact hi
    · have e8 : cnN S x (l + 1) = cnN S x l := by show _ + _ = _; rw [if_neg (fun z => c1 z.1)]; rfl
      rw [e8] at hi
      simp +decide only [e_141_7, e_141_8, e_141_11, e_141_14, e_141_15, e_141_16, e_141_18, e_141_21, e_141_24, e_141_25, e_141_28, e_141_29, e_141_31, e_141_32, e_141_33, e_141_34, e_141_37, e_141_38, e_141_41, e_141_42, e_141_43, e_141_44, e_141_47, ↓reduceIte, Int32.reduceAdd, Int32.reduceSub, an_0, an_1, an_2, an_3, an_4, an_5, tc_0, tc_1, tc_2, tc_3, tc_4, tc_5, tc_6, tc_7, tc_8, tc_9, tc_10, tc_11, tc_12, tc_13, tc_14, tc_15, tc_16, tc_17, tc_18, tc_19, tc_20, tc_21, tc_22, tc_23, tc_24, tc_25, tc_26, tc_27, tc_28, tc_29, tc_30, tc_31, tc_32, lcl_none, lcl_int, lcl_ref, lcl_null, lcl_long, okR_nil, okR_int, okR_ref, okR_null, okR_long, pushR_some, pushR_none, va_rf_some, va_rf_none, true_and, and_true, true_implies, false_implies, not_true_eq_false, not_false_eq_true, implies_true, bI_eq0, bI_eq1, bI_01, Classical.not_not, or_em, false_and, and_false, hS.1, hS.2.1, hS.2.2.1, hS.2.2.2.1, kT_102, kT_103, kT_104, kT_105, kT_106, kT_107, kT_108, kT_109, kT_110, kT_111, kT_112, kT_113, kT_114, kT_115, kT_116, kT_117, kT_118, kT_119, kT_120, nT_103, nT_104, nT_105, nT_106, nT_107, nT_108, nT_109, nT_110, nT_111, nT_112, nT_113, nT_114, nT_115, nT_116, nT_117, nT_118, nT_119, nT_120, rT_102_1, rT_102_12, rT_102_13, rT_102_14, rT_102_18, rT_102_19, rT_102_20, rT_102_21, rT_102_22, rT_102_23, rT_102_25, rT_102_26, rT_102_27, rT_102_30, rT_102_31, rT_102_32, rT_102_33, rT_102_34, c_has, hl, h1, e5, hcl, hin, e1, e9, c1, e7, nI_1]
      exact hi
set_option maxHeartbeats 1000000 in
set_option maxRecDepth 100000 in
theorem c_payOfM {d L P x : Nat} {b : Bool} {s : Int32} {S : Nat → Int32} {M : ab_M} {K : ab_Q} (hd : 2 ≤ d) (hS : Sh b M) (hL : L ≤ 5) (hP5 : P ≤ 5) (hl : mI M 102 16 = nI L) (hP : mI M 102 17 = nI P) (hN : ∀ k, k < 14 → mI M 111 k = S k) (hz : ∀ k, k < 5 → L ≤ k → S (5 + k) = -1) (hs : s ≠ -1) (hx : x < 32) : EvD d 141 [.ref 102, .int s, .int (nI x)] M K = K (some (.int (payI (mI M 107 0) (mI M 107 1) P (pop5 (haN S &&& x)) (pop5 (hsN S s &&& x))))) M := by
  rw [b_141 hd]
  simp +decide only [e_141_0, e_141_1, e_141_2, e_141_3, ↓reduceIte, Int32.reduceAdd, Int32.reduceSub, an_0, an_1, an_2, an_3, an_4, an_5, tc_0, tc_1, tc_2, tc_3, tc_4, tc_5, tc_6, tc_7, tc_8, tc_9, tc_10, tc_11, tc_12, tc_13, tc_14, tc_15, tc_16, tc_17, tc_18, tc_19, tc_20, tc_21, tc_22, tc_23, tc_24, tc_25, tc_26, tc_27, tc_28, tc_29, tc_30, tc_31, tc_32, lcl_none, lcl_int, lcl_ref, lcl_null, lcl_long, okR_nil, okR_int, okR_ref, okR_null, okR_long, pushR_some, pushR_none, va_rf_some, va_rf_none, true_and, and_true, true_implies, false_implies, not_true_eq_false, not_false_eq_true, implies_true, bI_eq0, bI_eq1, bI_01, Classical.not_not, or_em, false_and, and_false]
  have h := L_cntM (s := s) (K := K) hS hL hl hN hx L 0 (by omega)
  refine Eq.trans h ?_
  rw [← cnN_up hz (5 - L) L (Nat.le_refl L) (by omega), cnN_5 S x hx]
  have hlt := and_lt32 (haN S) (haN_lt S) x hx
  have hlt2 := and_lt32 x hx (hsN S s) (hsN_lt S s)
  have h5 := pop5_le _ hlt
  have e1 : (nI (pop5 (haN S &&& x)) = 0) = (pop5 (haN S &&& x) = 0) := nI_0E (by omega)
  have e2 : (nI P = 0) = (P = 0) := nI_0E (by omega)
  have e4 := and_nI x hx (hsN S s) (hsN_lt S s)
  have e5 : hsN S s &&& x = x &&& hsN S s := Nat.and_comm _ _
  unfold payI
  by_cases g1 : P = 0 <;> by_cases g2 : pop5 (haN S &&& x) = 0 <;> simp +decide only [e_141_50, e_141_51, e_141_54, e_141_55, e_141_56, e_141_57, e_141_60, e_141_61, e_141_62, e_141_63, e_141_65, e_141_66, e_141_68, e_141_69, e_141_72, e_141_75, e_141_76, e_141_79, e_141_81, e_141_82, e_141_85, e_141_86, e_141_88, e_141_89, e_141_92, e_141_94, e_141_97, e_141_99, e_141_100, e_141_101, e_141_102, e_141_105, e_141_106, e_141_109, e_141_110, e_141_113, e_141_114, e_141_115, e_141_117, e_141_118, e_141_119, e_141_120, e_141_121, e_141_122, ↓reduceIte, Int32.reduceAdd, Int32.reduceSub, an_0, an_1, an_2, an_3, an_4, an_5, tc_0, tc_1, tc_2, tc_3, tc_4, tc_5, tc_6, tc_7, tc_8, tc_9, tc_10, tc_11, tc_12, tc_13, tc_14, tc_15, tc_16, tc_17, tc_18, tc_19, tc_20, tc_21, tc_22, tc_23, tc_24, tc_25, tc_26, tc_27, tc_28, tc_29, tc_30, tc_31, tc_32, lcl_none, lcl_int, lcl_ref, lcl_null, lcl_long, okR_nil, okR_int, okR_ref, okR_null, okR_long, pushR_some, pushR_none, va_rf_some, va_rf_none, true_and, and_true, true_implies, false_implies, not_true_eq_false, not_false_eq_true, implies_true, bI_eq0, bI_eq1, bI_01, Classical.not_not, or_em, false_and, and_false, hS.1, hS.2.1, hS.2.2.1, hS.2.2.2.1, kT_102, kT_103, kT_104, kT_105, kT_106, kT_107, kT_108, kT_109, kT_110, kT_111, kT_112, kT_113, kT_114, kT_115, kT_116, kT_117, kT_118, kT_119, kT_120, nT_103, nT_104, nT_105, nT_106, nT_107, nT_108, nT_109, nT_110, nT_111, nT_112, nT_113, nT_114, nT_115, nT_116, nT_117, nT_118, nT_119, nT_120, rT_102_1, rT_102_12, rT_102_13, rT_102_14, rT_102_18, rT_102_19, rT_102_20, rT_102_21, rT_102_22, rT_102_23, rT_102_25, rT_102_26, rT_102_27, rT_102_30, rT_102_31, rT_102_32, rT_102_33, rT_102_34, hP, c_heldByM (d := 1) (Nat.le_refl 1) hS hL hl hN hz hs, e4, c_popM (d := 1) (Nat.le_refl 1) hlt2, e1, e2, g1, g2, e5]
