/-! the model's copies -/
def CpI (M M1 : ab_M) (x f y t i : Nat) : Prop := (∀ k, mI M1 y k = if t ≤ k ∧ k < t + i then mI M x (f + (k - t)) else mI M y k) ∧ (∀ a, a ≠ y → mI M1 a = mI M a) ∧ mK M1 = mK M ∧ mN M1 = mN M ∧ mR M1 = mR M ∧ mZ M1 = mZ M ∧ mS M1 = mS M
theorem CpI.sh {b : Bool} {M M1 : ab_M} {x f y t i : Nat} (h : CpI M M1 x f y t i) (hS : Sh b M) : Sh b M1 := by
  obtain ⟨-, -, h1, h2, h3, h4, h5⟩ := h
  unfold Sh at hS ⊢
  rw [h1, h2, h3, h4, h5]
  exact hS
set_option maxRecDepth 100000 in
theorem L_cpM {x f y t nx ny : Nat} {M : ab_M} {K : ab_Q} (hxy : x ≠ y) (kx : mK M x = 20) (ky : mK M y = 20) (hnx : mN M x = nx) (hny : mN M y = ny) (hf : f + 14 ≤ nx) (ht : t + 14 ≤ ny) (hnx2 : nx < 2 ^ 31) (hny2 : ny < 2 ^ 31) (hK : ∀ M2, CpI M M2 x f y t 14 → K none M2) : ∀ m i M1, i + m = 14 → CpI M M1 x f y t i → Ev 0 143 3 [some (.ref x), some (.int (nI f)), some (.ref y), some (.int (nI t)), some (.int (nI i))] [] M1 K := by
  intro m
  induction m with
  | zero =>
    intro i M1 e hI
    have h1 : (14 ≤ nI i) = True := by rw [show (14 : Int32) = nI 14 from rfl, nI_leE (by omega) (by omega)]; exact eq_true (by omega)
    rw [e_143_3]
    simp +decide only [e_143_0, e_143_1, e_143_5, e_143_7, e_143_10, e_143_11, e_143_12, e_143_14, e_143_15, e_143_16, e_143_17, e_143_19, e_143_20, e_143_21, e_143_22, e_143_25, e_143_28, ↓reduceIte, Int32.reduceAdd, Int32.reduceSub, an_0, an_1, an_2, an_3, an_4, an_5, tc_0, tc_1, tc_2, tc_3, tc_4, tc_5, tc_6, tc_7, tc_8, tc_9, tc_10, tc_11, tc_12, tc_13, tc_14, tc_15, tc_16, tc_17, tc_18, tc_19, tc_20, tc_21, tc_22, tc_23, tc_24, tc_25, tc_26, tc_27, tc_28, tc_29, tc_30, tc_31, tc_32, lcl_none, lcl_int, lcl_ref, lcl_null, lcl_long, okR_nil, okR_int, okR_ref, okR_null, okR_long, pushR_some, pushR_none, va_rf_some, va_rf_none, true_and, and_true, true_implies, false_implies, not_true_eq_false, not_false_eq_true, implies_true, bI_eq0, bI_eq1, bI_01, Classical.not_not, or_em, false_and, and_false, h1]
    rw [show i = 14 by omega] at hI
    exact hK M1 hI
  | succ m ih =>
    intro i M1 e hI
    have h1 : (14 ≤ nI i) = False := by rw [show (14 : Int32) = nI 14 from rfl, nI_leE (by omega) (by omega)]; exact eq_false (by omega)
    obtain ⟨g1, g2, g3, g4, g5, g6, g7⟩ := hI
    have e1 : mK M1 x = 20 := by rw [g3]; exact kx
    have e2 : mK M1 y = 20 := by rw [g3]; exact ky
    have e3 : inX (nI (f + i)) (mN M1 x) = True := by rw [g4, hnx]; exact eq_true (inX_nI hnx2 (by omega))
    have e4 : inX (nI (t + i)) (mN M1 y) = True := by rw [g4, hny]; exact eq_true (inX_nI hny2 (by omega))
    have c1 : (nI (f + i)).toNatClampNeg = f + i := nI_clamp (by omega)
    have c2 : (nI (t + i)).toNatClampNeg = t + i := nI_clamp (by omega)
    have v1 : mI M1 x (f + i) = mI M x (f + i) := by rw [g2 x hxy]
    rw [e_143_3]
    simp +decide only [e_143_0, e_143_1, e_143_5, e_143_7, e_143_10, e_143_11, e_143_12, e_143_14, e_143_15, e_143_16, e_143_17, e_143_19, e_143_20, e_143_21, e_143_22, e_143_25, e_143_28, ↓reduceIte, Int32.reduceAdd, Int32.reduceSub, an_0, an_1, an_2, an_3, an_4, an_5, tc_0, tc_1, tc_2, tc_3, tc_4, tc_5, tc_6, tc_7, tc_8, tc_9, tc_10, tc_11, tc_12, tc_13, tc_14, tc_15, tc_16, tc_17, tc_18, tc_19, tc_20, tc_21, tc_22, tc_23, tc_24, tc_25, tc_26, tc_27, tc_28, tc_29, tc_30, tc_31, tc_32, lcl_none, lcl_int, lcl_ref, lcl_null, lcl_long, okR_nil, okR_int, okR_ref, okR_null, okR_long, pushR_some, pushR_none, va_rf_some, va_rf_none, true_and, and_true, true_implies, false_implies, not_true_eq_false, not_false_eq_true, implies_true, bI_eq0, bI_eq1, bI_01, Classical.not_not, or_em, false_and, and_false, h1, e1, e2, e3, e4, nI_add, c1, c2, v1, nI_1]
    refine ih (i + 1) (wI M1 y (t + i) (mI M x (f + i))) (by omega) ⟨fun k => ?_, fun a ha => ?_, g3, g4, g5, g6, g7⟩
    · rw [mI_wI]
      by_cases hk : k = t + i
      · rw [if_pos ⟨rfl, hk⟩, if_pos (by omega), hk, show t + i - t = i by omega]
      · rw [if_neg (fun z => hk z.2), g1 k]
        by_cases hk2 : t ≤ k ∧ k < t + i
        · rw [if_pos hk2, if_pos (by omega)]
        · rw [if_neg hk2, if_neg (by omega)]
    · rw [mI_wI_ne ha]
      exact g2 a ha
theorem c_copyM {d x f y t nx ny : Nat} {M : ab_M} {K : ab_Q} (hd : 1 ≤ d) (hxy : x ≠ y) (kx : mK M x = 20) (ky : mK M y = 20) (hnx : mN M x = nx) (hny : mN M y = ny) (hf : f + 14 ≤ nx) (ht : t + 14 ≤ ny) (hnx2 : nx < 2 ^ 31) (hny2 : ny < 2 ^ 31) (hK : ∀ M2, CpI M M2 x f y t 14 → K none M2) : EvD d 143 [.ref x, .int (nI f), .ref y, .int (nI t)] M K := by
  rw [b_143 hd]
  simp +decide only [e_143_0, e_143_1, ↓reduceIte, Int32.reduceAdd, Int32.reduceSub, an_0, an_1, an_2, an_3, an_4, an_5, tc_0, tc_1, tc_2, tc_3, tc_4, tc_5, tc_6, tc_7, tc_8, tc_9, tc_10, tc_11, tc_12, tc_13, tc_14, tc_15, tc_16, tc_17, tc_18, tc_19, tc_20, tc_21, tc_22, tc_23, tc_24, tc_25, tc_26, tc_27, tc_28, tc_29, tc_30, tc_31, tc_32, lcl_none, lcl_int, lcl_ref, lcl_null, lcl_long, okR_nil, okR_int, okR_ref, okR_null, okR_long, pushR_some, pushR_none, va_rf_some, va_rf_none, true_and, and_true, true_implies, false_implies, not_true_eq_false, not_false_eq_true, implies_true, bI_eq0, bI_eq1, bI_01, Classical.not_not, or_em, false_and, and_false]
  exact L_cpM hxy kx ky hnx hny hf ht hnx2 hny2 hK 14 0 M (by omega) ⟨fun k => by rw [if_neg (by omega)], fun a _ => rfl, rfl, rfl, rfl, rfl, rfl⟩
set_option maxRecDepth 100000 in
theorem L_shM {b : Bool} {M : ab_M} {K : ab_Q} (hS : Sh b M) : ∀ m i M1, i + m = 266 → (∀ k, mI M1 112 k = if k < i then mI M 112 (k + 14) else mI M 112 k) → (∀ a, a ≠ 112 → mI M1 a = mI M a) → Sh b M1 → (∀ M2, (∀ k, mI M2 112 k = if k < 266 then mI M 112 (k + 14) else mI M 112 k) → (∀ a, a ≠ 112 → mI M2 a = mI M a) → Sh b M2 → Ev 1 144 39 [some (.ref 102), some (.int (nI 266))] [] M2 K) → Ev 1 144 11 [some (.ref 102), some (.int (nI i))] [] M1 K := by
  intro m
  induction m with
  | zero =>
    intro i M1 e hI hF hS1 hK
    have h1 : (266 ≤ nI i) = True := by rw [show (266 : Int32) = nI 266 from rfl, nI_leE (by omega) (by omega)]; exact eq_true (by omega)
    rw [e_144_11]
    simp +decide only [e_144_12, e_144_15, ↓reduceIte, Int32.reduceAdd, Int32.reduceSub, an_0, an_1, an_2, an_3, an_4, an_5, tc_0, tc_1, tc_2, tc_3, tc_4, tc_5, tc_6, tc_7, tc_8, tc_9, tc_10, tc_11, tc_12, tc_13, tc_14, tc_15, tc_16, tc_17, tc_18, tc_19, tc_20, tc_21, tc_22, tc_23, tc_24, tc_25, tc_26, tc_27, tc_28, tc_29, tc_30, tc_31, tc_32, lcl_none, lcl_int, lcl_ref, lcl_null, lcl_long, okR_nil, okR_int, okR_ref, okR_null, okR_long, pushR_some, pushR_none, va_rf_some, va_rf_none, true_and, and_true, true_implies, false_implies, not_true_eq_false, not_false_eq_true, implies_true, bI_eq0, bI_eq1, bI_01, Classical.not_not, or_em, false_and, and_false, h1]
    rw [show i = 266 by omega] at hI ⊢
    exact hK M1 hI hF hS1
  | succ m ih =>
    intro i M1 e hI hF hS1 hK
    have h1 : (266 ≤ nI i) = False := by rw [show (266 : Int32) = nI 266 from rfl, nI_leE (by omega) (by omega)]; exact eq_false (by omega)
    have e14 : nI i + 14 = nI (i + 14) := nI_add i 14
    have c1 : (nI i).toNatClampNeg = i := nI_clamp (by omega)
    have c2 : (nI (i + 14)).toNatClampNeg = i + 14 := nI_clamp (by omega)
    have i1 : inX (nI i) 280 = True := eq_true (inX_nI (by decide) (by omega))
    have i2 : inX (nI (i + 14)) 280 = True := eq_true (inX_nI (by decide) (by omega))
    have v1 : mI M1 112 (i + 14) = mI M 112 (i + 14) := by rw [hI, if_neg (by omega)]
    rw [e_144_11]
    simp +decide only [e_144_12, e_144_15, e_144_18, e_144_19, e_144_22, e_144_23, e_144_24, e_144_27, e_144_28, e_144_30, e_144_31, e_144_32, e_144_33, e_144_36, ↓reduceIte, Int32.reduceAdd, Int32.reduceSub, an_0, an_1, an_2, an_3, an_4, an_5, tc_0, tc_1, tc_2, tc_3, tc_4, tc_5, tc_6, tc_7, tc_8, tc_9, tc_10, tc_11, tc_12, tc_13, tc_14, tc_15, tc_16, tc_17, tc_18, tc_19, tc_20, tc_21, tc_22, tc_23, tc_24, tc_25, tc_26, tc_27, tc_28, tc_29, tc_30, tc_31, tc_32, lcl_none, lcl_int, lcl_ref, lcl_null, lcl_long, okR_nil, okR_int, okR_ref, okR_null, okR_long, pushR_some, pushR_none, va_rf_some, va_rf_none, true_and, and_true, true_implies, false_implies, not_true_eq_false, not_false_eq_true, implies_true, bI_eq0, bI_eq1, bI_01, Classical.not_not, or_em, false_and, and_false, hS1.1, hS1.2.1, hS1.2.2.1, kT_102, kT_112, nT_112, rT_102_23, h1, e14, c1, c2, i1, i2, v1, nI_1]
    refine ih (i + 1) _ (by omega) (fun k => ?_) (fun a ha => ?_) hS1 hK
    · rw [mI_wI]
      by_cases hk : k = i
      · rw [if_pos ⟨rfl, hk⟩, if_pos (by omega), hk]
      · rw [if_neg (fun z => hk z.2), hI k]
        by_cases hk2 : k < i
        · rw [if_pos hk2, if_pos (by omega)]
        · rw [if_neg hk2, if_neg (by omega)]
    · rw [mI_wI_ne ha]
      exact hF a ha
theorem M_note {d n : Nat} {b : Bool} {σ : Sg} {M : ab_M} (hd : 2 ≤ d) (hS : Sh b M) (hM : RM M σ) (hn : σ 0 6 = nI n) (hn2 : n ≤ 20) : EvD d 144 [.ref 102] M (fun r M' => r = none ∧ Sh b M' ∧ RM M' (pu σ n) ∧ frM M M') := by
  rw [b_144 hd]
  obtain ⟨m1, m2, m3, m4, m5, m6, m7⟩ := hM
  have hcn : mI M 102 24 = nI n := m1.2.1.2.2.2.1.trans hn
  have fin : ∀ (M' : ab_M) (j : Nat), Sh b M' → (∀ a, a ≠ 102 → a ≠ 112 → mI M' a = mI M a) → (∀ k, k ≠ 24 → mI M' 102 k = mI M 102 k) → mI M' 102 24 = nI j → j < 20 → nI (j + 1) = (if n = 20 then 20 else nI (n + 1)) → (∀ i, i < j → ∀ k, k < 14 → mI M' 112 (14 * i + k) = pu σ n (20 + i) k) → pu σ n (20 + j) = σ 5 → ∀ M2, CpI M' M2 111 0 112 (14 * j) 14 → (none : Option Value) = none ∧ Sh b (wI M2 102 24 (nI (j + 1))) ∧ RM (wI M2 102 24 (nI (j + 1))) (pu σ n) ∧ frM M (wI M2 102 24 (nI (j + 1))) := by
    intro M' j hS' hf h102 h24 hj hj1 hp hpj M2 hc
    have hS2 := hc.sh hS'
    obtain ⟨g1, g2, -⟩ := hc
    have hm : ∀ a, a ≠ 102 → a ≠ 112 → mI (wI M2 102 24 (nI (j + 1))) a = mI M a := fun a h1 h2 => by rw [mI_wI_ne h1, g2 a h2, hf a h1 h2]
    have h02 : ∀ k, k ≠ 24 → mI (wI M2 102 24 (nI (j + 1))) 102 k = mI M 102 k := fun k hk => by rw [mI_wI, if_neg (fun z => hk z.2), g2 102 (by decide), h102 k hk]
    refine ⟨rfl, hS2, ⟨?_, m2.kp (fun a h1 h2 => hm a (by omega) (by omega)) (pu_0 (by decide)) (pu_0 (by decide)) (pu_ne (by decide) (by decide)) (pu_ne (by decide) (by decide)) (pu_ne (by decide) (by decide)), m3.kp (hm _ (by decide) (by decide)) (pu_ne (by decide) (by decide)), m4.kp (hm _ (by decide) (by decide)) (pu_ne (by decide) (by decide)), m5.kp (hm _ (by decide) (by decide)) (pu_ne (by decide) (by decide)) (pu_ne (by decide) (by decide)), m6.kp (fun a h1 h2 => hm a (by omega) (by omega)) (pu_ne (by decide) (by decide)) (pu_ne (by decide) (by decide)) (pu_ne (by decide) (by decide)) (pu_ne (by decide) (by decide)), ?_⟩, fun a ha => hm a (by omega) (by omega)⟩
    · have h0 := m1
      unfold RM0 at h0 ⊢
      rw [h02 16 (by decide), h02 17 (by decide), h02 15 (by decide), h02 7 (by decide), h02 28 (by decide), h02 0 (by decide), h02 29 (by decide), hm 107 (by decide) (by decide), pu_06, ← hj1, pu_0 (by decide), pu_0 (by decide), pu_0 (by decide), pu_0 (by decide), pu_0 (by decide), pu_0 (by decide), pu_0 (by decide), pu_ne (by decide) (by decide)]
      exact ⟨h0.1, ⟨h0.2.1.1, h0.2.1.2.1, h0.2.1.2.2.1, by rw [mI_wI, if_pos ⟨rfl, rfl⟩], h0.2.1.2.2.2.2⟩, h0.2.2⟩
    · intro i hi hin k hk
      rw [pu_06, ← hj1, nI_ltE (by omega) (by omega)] at hin
      rw [mI_wI_ne (by decide), g1]
      by_cases hij : i = j
      · rw [if_pos (by omega), hij, hpj, show 0 + (14 * j + k - 14 * j) = k by omega, hf 111 (by decide) (by decide)]
        exact m3 k hk
      · rw [if_neg (by omega)]
        exact hp i (by omega) k hk
  have tail : ∀ (M' : ab_M) (j : Nat) (o : Option Value), Sh b M' → mI M' 102 24 = nI j → j < 20 → (∀ M2, CpI M' M2 111 0 112 (14 * j) 14 → (none : Option Value) = none ∧ Sh b (wI M2 102 24 (nI (j + 1))) ∧ RM (wI M2 102 24 (nI (j + 1))) (pu σ n) ∧ frM M (wI M2 102 24 (nI (j + 1)))) → Ev 1 144 49 [some (.ref 102), o] [] M' (fun r M' => r = none ∧ Sh b M' ∧ RM M' (pu σ n) ∧ frM M M') := by
    intro M' j o hS' h24 hj hK
    have e14 : 14 * nI j = nI (14 * j) := pk_mul 14 j
    simp +decide only [e_144_49, e_144_50, e_144_53, e_144_54, e_144_55, e_144_58, e_144_60, e_144_61, e_144_64, e_144_65, ↓reduceIte, Int32.reduceAdd, Int32.reduceSub, an_0, an_1, an_2, an_3, an_4, an_5, tc_0, tc_1, tc_2, tc_3, tc_4, tc_5, tc_6, tc_7, tc_8, tc_9, tc_10, tc_11, tc_12, tc_13, tc_14, tc_15, tc_16, tc_17, tc_18, tc_19, tc_20, tc_21, tc_22, tc_23, tc_24, tc_25, tc_26, tc_27, tc_28, tc_29, tc_30, tc_31, tc_32, lcl_none, lcl_int, lcl_ref, lcl_null, lcl_long, okR_nil, okR_int, okR_ref, okR_null, okR_long, pushR_some, pushR_none, va_rf_some, va_rf_none, true_and, and_true, true_implies, false_implies, not_true_eq_false, not_false_eq_true, implies_true, bI_eq0, bI_eq1, bI_01, Classical.not_not, or_em, false_and, and_false, hS'.1, hS'.2.1, hS'.2.2.1, kT_102, rT_102_22, rT_102_23, h24, e14]
    refine c_copyM (x := 111) (f := 0) (y := 112) (t := 14 * j) (nx := 14) (ny := 280) (Nat.le_refl 1) (by decide) (by rw [hS'.1]; rfl) (by rw [hS'.1]; rfl) (by rw [hS'.2.1]; rfl) (by rw [hS'.2.1]; rfl) (by decide) (by omega) (by decide) (by decide) (fun M2 hc => ?_)
    have hS2 := hc.sh hS'
    have h2 : mI M2 102 24 = nI j := by rw [hc.2.1 102 (by decide)]; exact h24
    simp +decide only [e_144_68, e_144_69, e_144_69r, e_144_70, e_144_73, e_144_74, e_144_75, e_144_78, ↓reduceIte, Int32.reduceAdd, Int32.reduceSub, an_0, an_1, an_2, an_3, an_4, an_5, tc_0, tc_1, tc_2, tc_3, tc_4, tc_5, tc_6, tc_7, tc_8, tc_9, tc_10, tc_11, tc_12, tc_13, tc_14, tc_15, tc_16, tc_17, tc_18, tc_19, tc_20, tc_21, tc_22, tc_23, tc_24, tc_25, tc_26, tc_27, tc_28, tc_29, tc_30, tc_31, tc_32, lcl_none, lcl_int, lcl_ref, lcl_null, lcl_long, okR_nil, okR_int, okR_ref, okR_null, okR_long, pushR_some, pushR_none, va_rf_some, va_rf_none, true_and, and_true, true_implies, false_implies, not_true_eq_false, not_false_eq_true, implies_true, bI_eq0, bI_eq1, bI_01, Classical.not_not, or_em, false_and, and_false, hS2.1, kT_102, h2, nI_1]
    exact (hK M2 hc).2
  by_cases h20 : n = 20
  · subst h20
    have hcn' : mI M 102 24 = 20 := hcn
    simp +decide only [e_144_0, e_144_1, e_144_4, e_144_6, e_144_9, e_144_10, ↓reduceIte, Int32.reduceAdd, Int32.reduceSub, an_0, an_1, an_2, an_3, an_4, an_5, tc_0, tc_1, tc_2, tc_3, tc_4, tc_5, tc_6, tc_7, tc_8, tc_9, tc_10, tc_11, tc_12, tc_13, tc_14, tc_15, tc_16, tc_17, tc_18, tc_19, tc_20, tc_21, tc_22, tc_23, tc_24, tc_25, tc_26, tc_27, tc_28, tc_29, tc_30, tc_31, tc_32, lcl_none, lcl_int, lcl_ref, lcl_null, lcl_long, okR_nil, okR_int, okR_ref, okR_null, okR_long, pushR_some, pushR_none, va_rf_some, va_rf_none, true_and, and_true, true_implies, false_implies, not_true_eq_false, not_false_eq_true, implies_true, bI_eq0, bI_eq1, bI_01, Classical.not_not, or_em, false_and, and_false, hS.1, hS.2.1, hS.2.2.1, hS.2.2.2.1, kT_102, kT_103, kT_104, kT_105, kT_106, kT_107, kT_108, kT_109, kT_110, kT_111, kT_112, kT_113, kT_114, kT_115, kT_116, kT_117, kT_118, kT_119, kT_120, nT_103, nT_104, nT_105, nT_106, nT_107, nT_108, nT_109, nT_110, nT_111, nT_112, nT_113, nT_114, nT_115, nT_116, nT_117, nT_118, nT_119, nT_120, rT_102_1, rT_102_12, rT_102_13, rT_102_14, rT_102_18, rT_102_19, rT_102_20, rT_102_21, rT_102_22, rT_102_23, rT_102_25, rT_102_26, rT_102_27, rT_102_30, rT_102_31, rT_102_32, rT_102_33, rT_102_34, hcn']
    refine L_shM hS 266 0 M (by omega) (fun k => by rw [if_neg (by omega)]) (fun a _ => rfl) hS (fun M1 h1 h2 hS1 => ?_)
    have h24 : mI M1 102 24 = 20 := by rw [h2 102 (by decide)]; exact hcn'
    simp +decide only [e_144_39, e_144_40, e_144_40r, e_144_41, e_144_44, e_144_45, e_144_46, ↓reduceIte, Int32.reduceAdd, Int32.reduceSub, an_0, an_1, an_2, an_3, an_4, an_5, tc_0, tc_1, tc_2, tc_3, tc_4, tc_5, tc_6, tc_7, tc_8, tc_9, tc_10, tc_11, tc_12, tc_13, tc_14, tc_15, tc_16, tc_17, tc_18, tc_19, tc_20, tc_21, tc_22, tc_23, tc_24, tc_25, tc_26, tc_27, tc_28, tc_29, tc_30, tc_31, tc_32, lcl_none, lcl_int, lcl_ref, lcl_null, lcl_long, okR_nil, okR_int, okR_ref, okR_null, okR_long, pushR_some, pushR_none, va_rf_some, va_rf_none, true_and, and_true, true_implies, false_implies, not_true_eq_false, not_false_eq_true, implies_true, bI_eq0, bI_eq1, bI_01, Classical.not_not, or_em, false_and, and_false, hS1.1, kT_102, h24]
    refine tail (wI M1 102 24 (nI 19)) 19 _ hS1 (by rw [mI_wI, if_pos ⟨rfl, rfl⟩]) (by decide) (fin _ 19 hS1 (fun a g1 g2 => by rw [mI_wI_ne g1, h2 a g2]) (fun k hk => by rw [mI_wI, if_neg (fun z => hk z.2), h2 102 (by decide)]) (by rw [mI_wI, if_pos ⟨rfl, rfl⟩]) (by decide) (by rw [if_pos rfl]; rfl) (fun i hi k hk => ?_) ?_)
    · rw [mI_wI_ne (by decide), h1, if_pos (by omega), pu_p (by omega), if_pos rfl, if_neg (by omega), ← m7 (i + 1) (by omega) (by rw [hn, nI_ltE (by omega) (by omega)]; omega) k hk]
      rw [show 14 * i + k + 14 = 14 * (i + 1) + k by omega]
    · rw [pu_p (by decide), if_pos rfl, if_pos rfl]
  · have hcn' : (nI n = 20) = False := by rw [show (20 : Int32) = nI 20 from rfl, nI_eqE (by omega) (by decide)]; exact eq_false h20
    simp +decide only [e_144_0, e_144_1, e_144_4, e_144_6, e_144_9, e_144_10, ↓reduceIte, Int32.reduceAdd, Int32.reduceSub, an_0, an_1, an_2, an_3, an_4, an_5, tc_0, tc_1, tc_2, tc_3, tc_4, tc_5, tc_6, tc_7, tc_8, tc_9, tc_10, tc_11, tc_12, tc_13, tc_14, tc_15, tc_16, tc_17, tc_18, tc_19, tc_20, tc_21, tc_22, tc_23, tc_24, tc_25, tc_26, tc_27, tc_28, tc_29, tc_30, tc_31, tc_32, lcl_none, lcl_int, lcl_ref, lcl_null, lcl_long, okR_nil, okR_int, okR_ref, okR_null, okR_long, pushR_some, pushR_none, va_rf_some, va_rf_none, true_and, and_true, true_implies, false_implies, not_true_eq_false, not_false_eq_true, implies_true, bI_eq0, bI_eq1, bI_01, Classical.not_not, or_em, false_and, and_false, hS.1, hS.2.1, hS.2.2.1, hS.2.2.2.1, kT_102, kT_103, kT_104, kT_105, kT_106, kT_107, kT_108, kT_109, kT_110, kT_111, kT_112, kT_113, kT_114, kT_115, kT_116, kT_117, kT_118, kT_119, kT_120, nT_103, nT_104, nT_105, nT_106, nT_107, nT_108, nT_109, nT_110, nT_111, nT_112, nT_113, nT_114, nT_115, nT_116, nT_117, nT_118, nT_119, nT_120, rT_102_1, rT_102_12, rT_102_13, rT_102_14, rT_102_18, rT_102_19, rT_102_20, rT_102_21, rT_102_22, rT_102_23, rT_102_25, rT_102_26, rT_102_27, rT_102_30, rT_102_31, rT_102_32, rT_102_33, rT_102_34, hcn, hcn']
    refine tail M n _ hS hcn (by omega) (fin M n hS (fun a _ _ => rfl) (fun k _ => rfl) hcn (by omega) (by rw [if_neg h20]) (fun i hi k hk => ?_) ?_)
    · rw [pu_p (by omega), if_neg h20, if_neg (by omega)]
      exact m7 i (by omega) (by rw [hn, nI_ltE (by omega) (by omega)]; exact hi) k hk
    · rw [pu_p (by omega), if_neg h20, if_pos rfl]
