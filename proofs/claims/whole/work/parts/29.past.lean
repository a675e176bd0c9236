/-! states are copied; what can be undone -/
def Stt (M : ab_M) (a : Nat) : Prop := mK M a = 7 ∧ mR M a 0 = some (a + 1) ∧ mR M a 1 = some (a + 2) ∧ mK M (a + 1) = 20 ∧ mK M (a + 2) = 20 ∧ mN M (a + 1) = 5 ∧ mN M (a + 2) = 5
def cpSt (M : ab_M) (a c : Nat) : ab_M := wI (wI (wI (wI (mCpy (mCpy M (c + 1) 0 (a + 1) 0 5) (c + 2) 0 (a + 2) 0 5) a 2 (mI M c 2)) a 3 (mI M c 3)) a 4 (mI M c 4)) a 5 (mI M c 5)
theorem mI_mCpy_ne {M : ab_M} {a sp b dp n c : Nat} (h : c ≠ b) : mI (mCpy M a sp b dp n) c = mI M c := if_neg h
theorem c_copyFrom {d a c : Nat} {M : ab_M} {K : ab_Q} (hd : 1 ≤ d) (hne : a + 2 < c ∨ c + 2 < a) (ha : Stt M a) (hc : Stt M c) : EvD d 39 [.ref a, .ref c] M K = K none (cpSt M a c) := by
  rw [b_39 hd]
  obtain ⟨k1, r1, r2, k2, k3, n2, n3⟩ := ha
  obtain ⟨k1', r1', r2', k2', k3', n2', n3'⟩ := hc
  have f1 : (c + 1 = a + 1) = False := eq_false (by omega)
  have f2 : (c + 2 = a + 2) = False := eq_false (by omega)
  have f3 : (c = a) = False := eq_false (by omega)
  have g1 : c ≠ a + 1 := by omega
  have g2 : c ≠ a + 2 := by omega
  have tc5 : Int32.toNatClampNeg 5 = 5 := by decide
  simp +decide only [e_39_0, e_39_1, e_39_4, e_39_5, e_39_6, e_39_9, e_39_10, e_39_11, e_39_14, e_39_15, e_39_18, e_39_19, e_39_20, e_39_23, e_39_24, e_39_25, e_39_28, e_39_29, e_39_30, e_39_33, e_39_36, e_39_37, e_39_38, e_39_41, e_39_44, e_39_45, e_39_46, e_39_49, e_39_52, e_39_53, e_39_54, e_39_57, e_39_60, ↓reduceIte, Int32.reduceAdd, Int32.reduceSub, an_0, an_1, an_2, an_3, an_4, an_5, tc_0, tc_1, tc_2, tc_3, tc_4, tc_5, tc_6, tc_7, tc_8, tc_9, tc_10, tc_11, tc_12, tc_13, tc_14, tc_15, tc_16, tc_17, tc_18, tc_19, tc_20, tc_21, tc_22, tc_23, tc_24, tc_25, tc_26, tc_27, tc_28, tc_29, tc_30, tc_31, tc_32, lcl_none, lcl_int, lcl_ref, lcl_null, lcl_long, okR_nil, okR_int, okR_ref, okR_null, okR_long, pushR_some, pushR_none, va_rf_some, va_rf_none, true_and, and_true, true_implies, false_implies, not_true_eq_false, not_false_eq_true, implies_true, bI_eq0, bI_eq1, bI_01, Classical.not_not, or_em, false_and, and_false, mI_wI, mI_wJ, mI_wR, mJ_wI, mJ_wJ, mJ_wR, mR_wI, mR_wJ, mR_wR, mK_wI, mK_wJ, mK_wR, mN_wI, mN_wJ, mN_wR, mZ_wI, mZ_wJ, mZ_wR, mK_mCpy, mN_mCpy, mR_mCpy, mI_mCpy_ne g1, mI_mCpy_ne g2, k1, r1, r2, k2, k3, n2, n3, k1', r1', r2', k2', k3', n2', n3', f1, f2, f3, ne_eq]
  rfl
theorem cpSt_fr {M : ab_M} {a c x : Nat} (h : x < a ∨ a + 2 < x) : mI (cpSt M a c) x = mI M x := by
  unfold cpSt
  rw [mI_wI_ne (by omega), mI_wI_ne (by omega), mI_wI_ne (by omega), mI_wI_ne (by omega), mI_mCpy_ne (by omega), mI_mCpy_ne (by omega)]
theorem cpSt_SN {M : ab_M} {a c : Nat} {S : Nat → Int32} (hne : a + 2 < c ∨ c + 2 < a) (h : SN M c S) : SN (cpSt M a c) a S := by
  obtain ⟨h1, h2, h3, h4, h5, h6⟩ := h
  refine ⟨fun k hk => ?_, fun k hk => ?_, ?_, ?_, ?_, ?_⟩
  · unfold cpSt
    rw [mI_wI_ne (by omega), mI_wI_ne (by omega), mI_wI_ne (by omega), mI_wI_ne (by omega), mI_mCpy_ne (by omega), mI_mCpy, if_pos rfl]
    unfold cpF
    rw [if_pos (by omega)]
    simpa using h1 k hk
  · unfold cpSt
    rw [mI_wI_ne (by omega), mI_wI_ne (by omega), mI_wI_ne (by omega), mI_wI_ne (by omega), mI_mCpy, if_pos rfl]
    unfold cpF
    rw [if_pos (by omega), mI_mCpy_ne (by omega)]
    simpa using h2 k hk
  · unfold cpSt
    simp [mI_wI, h3]
  · unfold cpSt
    simp [mI_wI, h4]
  · unfold cpSt
    simp [mI_wI, h5]
  · unfold cpSt
    simp [mI_wI, h6]
theorem cpSt_Sh {b : Bool} {M : ab_M} {a c : Nat} (h : Sh b M) : Sh b (cpSt M a c) := h
theorem Stt_Sh {b : Bool} {M : ab_M} (hS : Sh b M) {a : Nat} (h : a = 15 ∨ a = 83 ∨ a = 86 ∨ ∃ i, i < 20 ∧ a = 20 + 3 * i) : Stt M a := by
  have key : ∀ (b : Bool), ∀ i, i < 20 → (kT (20 + 3 * i) = 7 ∧ rT b (20 + 3 * i) 0 = some (20 + 3 * i + 1) ∧ rT b (20 + 3 * i) 1 = some (20 + 3 * i + 2) ∧ kT (20 + 3 * i + 1) = 20 ∧ kT (20 + 3 * i + 2) = 20 ∧ nT (20 + 3 * i + 1) = 5 ∧ nT (20 + 3 * i + 2) = 5) := by decide +kernel
  unfold Stt
  rw [hS.1, hS.2.1, hS.2.2.1]
  rcases h with rfl | rfl | rfl | ⟨i, hi, rfl⟩
  · cases b <;> exact ⟨rfl, rfl, rfl, rfl, rfl, rfl, rfl⟩
  · cases b <;> exact ⟨rfl, rfl, rfl, rfl, rfl, rfl, rfl⟩
  · cases b <;> exact ⟨rfl, rfl, rfl, rfl, rfl, rfl, rfl⟩
  · exact key b i hi
theorem rT_19 {b : Bool} : ∀ i, i < 20 → rT b 19 i = some (20 + 3 * i) := by cases b <;> decide +kernel
theorem xor20 : ∀ x, x < 40 → (0 ≤ nI x ^^^ 20) = True := by
  have h : ∀ x, x < 40 → (0 : Int32) ≤ nI x ^^^ 20 := by decide +kernel
  exact fun x hx => eq_true (h x hx)
theorem c_floorMod {d x : Nat} {M : ab_M} {K : ab_Q} (hd : 1 ≤ d) (hx : x < 40) : EvD d 181 [.int (nI x), .int 20] M K = K (some (.int (nI (x % 20)))) M := by
  rw [b_181 hd]
  have e1 : nI x - nI x / 20 * 20 = nI (x % 20) := pk_rem (a := x) (d := 20) (by omega) (by decide) (by decide)
  have e0 : ((20 : Int32) = 0) = False := by decide
  simp +decide only [e_181_0, e_181_1, e_181_2, e_181_3, e_181_4, e_181_5, e_181_6, e_181_7, e_181_10, e_181_11, e_181_14, e_181_15, e_181_16, e_181_17, e_181_18, e_181_19, ↓reduceIte, Int32.reduceAdd, Int32.reduceSub, an_0, an_1, an_2, an_3, an_4, an_5, tc_0, tc_1, tc_2, tc_3, tc_4, tc_5, tc_6, tc_7, tc_8, tc_9, tc_10, tc_11, tc_12, tc_13, tc_14, tc_15, tc_16, tc_17, tc_18, tc_19, tc_20, tc_21, tc_22, tc_23, tc_24, tc_25, tc_26, tc_27, tc_28, tc_29, tc_30, tc_31, tc_32, lcl_none, lcl_int, lcl_ref, lcl_null, lcl_long, okR_nil, okR_int, okR_ref, okR_null, okR_long, pushR_some, pushR_none, va_rf_some, va_rf_none, true_and, and_true, true_implies, false_implies, not_true_eq_false, not_false_eq_true, implies_true, bI_eq0, bI_eq1, bI_01, Classical.not_not, or_em, false_and, and_false, e0, e1, xor20 x hx]
theorem c_at {d o i : Nat} {b : Bool} {M : ab_M} {K : ab_Q} (hd : 2 ≤ d) (hS : Sh b M) (ho : mI M 18 1 = nI o) (ho2 : o < 20) (hi : i < 20) : EvD d 34 [.ref 18, .int (nI i)] M K = K (some (.ref (20 + 3 * ((o + i) % 20)))) M := by
  rw [b_34 hd]
  have hm : (o + i) % 20 < 20 := Nat.mod_lt _ (by decide)
  have hcl : (nI ((o + i) % 20)).toNatClampNeg = (o + i) % 20 := nI_clamp (by omega)
  have hin : inX (nI ((o + i) % 20)) 20 = True := eq_true (inX_nI (by decide) hm)
  simp +decide only [e_34_0, e_34_1, e_34_4, e_34_5, e_34_8, e_34_9, e_34_10, e_34_12, e_34_15, e_34_16, ↓reduceIte, Int32.reduceAdd, Int32.reduceSub, an_0, an_1, an_2, an_3, an_4, an_5, tc_0, tc_1, tc_2, tc_3, tc_4, tc_5, tc_6, tc_7, tc_8, tc_9, tc_10, tc_11, tc_12, tc_13, tc_14, tc_15, tc_16, tc_17, tc_18, tc_19, tc_20, tc_21, tc_22, tc_23, tc_24, tc_25, tc_26, tc_27, tc_28, tc_29, tc_30, tc_31, tc_32, lcl_none, lcl_int, lcl_ref, lcl_null, lcl_long, okR_nil, okR_int, okR_ref, okR_null, okR_long, pushR_some, pushR_none, va_rf_some, va_rf_none, true_and, and_true, true_implies, false_implies, not_true_eq_false, not_false_eq_true, implies_true, bI_eq0, bI_eq1, bI_01, Classical.not_not, or_em, false_and, and_false, hS.1, hS.2.1, hS.2.2.1, hS.2.2.2.1, kT_0, kT_1, kT_2, kT_15, kT_16, kT_17, kT_18, kT_19, kT_80, kT_81, kT_82, kT_89, kT_90, kT_91, kT_92, kT_93, kT_94, kT_95, kT_96, kT_97, kT_98, kT_99, kT_100, kT_101, nT_2, nT_16, nT_17, nT_19, nT_81, nT_82, nT_90, nT_91, nT_94, nT_95, nT_97, nT_98, nT_100, nT_101, rT_0_0, rT_0_3, rT_0_4, rT_0_5, rT_0_6, rT_0_7, rT_0_8, rT_0_9, rT_0_10, rT_1_0, rT_15_0, rT_15_1, rT_18_0, rT_80_0, rT_80_1, rT_89_0, rT_89_1, rT_93_6, rT_93_7, rT_96_0, rT_96_1, rT_99_0, rT_99_1, ho, nI_add, c_floorMod (d := 1) (Nat.le_refl 1) (show o + i < 40 by omega), hcl, hin, rT_19 _ hm]
/-- the state behind a note -/
def pu (σ : Sg) (n : Nat) : Sg := fun j k => if j = 0 ∧ k = 6 then (if n = 20 then 20 else nI (n + 1)) else if 20 ≤ j ∧ j < 40 then (if n = 20 then (if j = 39 then σ 5 k else σ (j + 1) k) else if j = 20 + n then σ 5 k else σ j k) else σ j k
theorem pu_ne {σ : Sg} {n j : Nat} (h0 : j ≠ 0) (h : j < 20 ∨ 40 ≤ j) : pu σ n j = σ j := by
  funext k
  unfold pu
  rw [if_neg (fun e => h0 e.1), if_neg (by omega)]
theorem pu_0 {σ : Sg} {n k : Nat} (h : k ≠ 6) : pu σ n 0 k = σ 0 k := by
  unfold pu
  rw [if_neg (fun e => h e.2), if_neg (by omega)]
theorem pu_06 {σ : Sg} {n : Nat} : pu σ n 0 6 = if n = 20 then 20 else nI (n + 1) := by
  unfold pu
  rw [if_pos ⟨rfl, rfl⟩]
theorem pu_p {σ : Sg} {n i : Nat} (hi : i < 20) : pu σ n (20 + i) = if n = 20 then (if i = 19 then σ 5 else σ (20 + (i + 1))) else if i = n then σ 5 else σ (20 + i) := by
  funext k
  unfold pu
  rw [if_neg (by omega), if_pos (by omega)]
  by_cases h : n = 20
  · rw [if_pos h, if_pos h]
    by_cases h2 : i = 19
    · rw [if_pos (by omega), if_pos h2]
    · rw [if_neg (by omega), if_neg h2]
      rfl
  · rw [if_neg h, if_neg h]
    by_cases h2 : i = n
    · rw [if_pos (by omega), if_pos h2]
    · rw [if_neg (by omega), if_neg h2]
theorem rem_tail {p m : Nat} {b : Bool} {M1 : ab_M} {K : ab_Q} (hS1 : Sh b M1) (h182 : mI M1 18 2 = nI m) (hp : p < 20) : Ev 2 35 40 [some (.ref 18), some (.ref 15)] [.ref (20 + 3 * p)] M1 K = K none (wI (cpSt M1 (20 + 3 * p) 15) 18 2 (nI (m + 1))) := by
  have hst := Stt_Sh hS1 (Or.inr (Or.inr (Or.inr ⟨p, hp, rfl⟩)))
  have hcp : ∀ K, EvD 2 39 [.ref (20 + 3 * p), .ref 15] M1 K = K none (cpSt M1 (20 + 3 * p) 15) := fun K => c_copyFrom (d := 2) (by decide) (by omega) hst (Stt_Sh hS1 (Or.inl rfl))
  have hko : mK M1 (20 + 3 * p) = 7 := hst.1
  have hk : mK (cpSt M1 (20 + 3 * p) 15) 18 = 6 := by show mK M1 18 = 6; rw [hS1.1]; rfl
  have h2 : mI (cpSt M1 (20 + 3 * p) 15) 18 = mI M1 18 := cpSt_fr (by omega)
  simp +decide only [e_35_40, e_35_41, e_35_44, e_35_45, e_35_45r, e_35_46, e_35_49, e_35_50, e_35_51, e_35_54, ↓reduceIte, Int32.reduceAdd, Int32.reduceSub, an_0, an_1, an_2, an_3, an_4, an_5, tc_0, tc_1, tc_2, tc_3, tc_4, tc_5, tc_6, tc_7, tc_8, tc_9, tc_10, tc_11, tc_12, tc_13, tc_14, tc_15, tc_16, tc_17, tc_18, tc_19, tc_20, tc_21, tc_22, tc_23, tc_24, tc_25, tc_26, tc_27, tc_28, tc_29, tc_30, tc_31, tc_32, lcl_none, lcl_int, lcl_ref, lcl_null, lcl_long, okR_nil, okR_int, okR_ref, okR_null, okR_long, pushR_some, pushR_none, va_rf_some, va_rf_none, true_and, and_true, true_implies, false_implies, not_true_eq_false, not_false_eq_true, implies_true, bI_eq0, bI_eq1, bI_01, Classical.not_not, or_em, false_and, and_false, hcp, hko, hk, h2, h182, nI_1]
theorem C_remember {d n : Nat} {b : Bool} {σ : Sg} {M : ab_M} (hd : 3 ≤ d) (hS : Sh b M) (hC : RC b M σ) (hn : σ 0 6 = nI n) (hn2 : n ≤ 20) : EvD d 35 [.ref 18, .ref 15] M (fun r M' => r = none ∧ Sh b M' ∧ RC b M' (pu σ n) ∧ frC M M') := by
  rw [b_35 hd]
  obtain ⟨c1, c2, c3, c4, c5, c6, o, ho, eo, cp⟩ := hC
  have hcn : mI M 18 2 = nI n := c1.2.1.2.2.2.1.trans hn
  have hb := chL_cases b
  have kps : ∀ M', (∀ a, a ≠ 18 → a < 20 ∨ 79 < a → mI M' a = mI M a) → RC2 b M' (pu σ n) ∧ SN M' 15 (pu σ n 5) ∧ RCt M' (pu σ n) ∧ RCb M' (pu σ n) ∧ RCi M' (pu σ n) := fun M' hm =>
    ⟨c2.kp (fun a g1 g2 => hm a (by omega) (by omega)) (pu_0 (by decide)) (pu_0 (by decide)) (pu_ne (by decide) (by decide)) (pu_ne (by decide) (by decide)) (pu_ne (by decide) (by decide)), c3.kp (fun a g1 g2 => hm a (by omega) (by omega)) (fun k _ => congrFun (pu_ne (by decide) (by decide)) k), c4.kp (hm _ (by decide) (by decide)) (pu_ne (by decide) (by decide)), c5.kp (hm _ (by decide) (by decide)) (hm _ (by decide) (by decide)) (pu_ne (by decide) (by decide)) (pu_ne (by decide) (by decide)), c6.kp (fun a g1 g2 => hm a (by omega) (by omega)) (pu_ne (by decide) (by decide)) (pu_ne (by decide) (by decide)) (pu_ne (by decide) (by decide)) (pu_ne (by decide) (by decide))⟩
  have k0 : ∀ M', (∀ a, a ≠ 18 → a < 20 ∨ 79 < a → mI M' a = mI M a) → mI M' 18 2 = (if n = 20 then 20 else nI (n + 1)) → RC0 b M' (pu σ n) := by
    intro M' hm h18
    have h0 := c1
    unfold RC0 at h0 ⊢
    rw [hm (chL b) (by omega) (by omega), hm 0 (by decide) (by decide), hm 92 (by decide) (by decide), hm 1 (by decide) (by decide), hm 89 (by decide) (by decide), h18, pu_06, pu_0 (by decide), pu_0 (by decide), pu_0 (by decide), pu_0 (by decide), pu_0 (by decide), pu_0 (by decide), pu_0 (by decide), pu_ne (by decide) (by decide)]
    exact ⟨h0.1, ⟨h0.2.1.1, h0.2.1.2.1, h0.2.1.2.2.1, rfl, h0.2.1.2.2.2.2⟩, h0.2.2⟩
  by_cases h20 : n = 20
  · subst h20
    have hcn' : mI M 18 2 = 20 := hcn
    have e1 : nI (o + 1) - nI (o + 1) / 20 * 20 = nI ((o + 1) % 20) := pk_rem (a := o + 1) (d := 20) (by omega) (by decide) (by decide)
    have e0 : ((20 : Int32) = 0) = False := by decide
    have ho' : (o + 1) % 20 < 20 := Nat.mod_lt _ (by decide)
    generalize hM1 : wI (wI M 18 1 (nI ((o + 1) % 20))) 18 2 19 = M1
    have hS1 : Sh b M1 := by rw [← hM1]; exact hS
    have h181 : mI M1 18 1 = nI ((o + 1) % 20) := by rw [← hM1]; simp [mI_wI]
    have h182 : mI M1 18 2 = 19 := by rw [← hM1]; simp [mI_wI]
    have hj : (((o + 1) % 20 + 19) % 20) = o := by omega
    have hat : ∀ K, EvD 2 34 [.ref 18, .int 19] M1 K = K (some (.ref (20 + 3 * o))) M1 := fun K => by
      have h := c_at (K := K) (d := 2) (Nat.le_refl 2) hS1 h181 ho' (show 19 < 20 by decide)
      rw [hj] at h
      exact h
    have hk18 : mK M1 18 = 6 := by rw [hS1.1]; rfl
    have hf1 : ∀ x, x ≠ 18 → mI M1 x = mI M x := fun x hx => by rw [← hM1, mI_wI_ne hx, mI_wI_ne hx]
    simp +decide only [e_35_0, e_35_1, e_35_4, e_35_6, e_35_9, e_35_10, e_35_11, e_35_14, e_35_15, e_35_16, e_35_18, e_35_19, e_35_22, e_35_23, e_35_23r, e_35_24, e_35_27, e_35_28, e_35_29, e_35_32, e_35_33, e_35_34, e_35_37, ↓reduceIte, Int32.reduceAdd, Int32.reduceSub, an_0, an_1, an_2, an_3, an_4, an_5, tc_0, tc_1, tc_2, tc_3, tc_4, tc_5, tc_6, tc_7, tc_8, tc_9, tc_10, tc_11, tc_12, tc_13, tc_14, tc_15, tc_16, tc_17, tc_18, tc_19, tc_20, tc_21, tc_22, tc_23, tc_24, tc_25, tc_26, tc_27, tc_28, tc_29, tc_30, tc_31, tc_32, lcl_none, lcl_int, lcl_ref, lcl_null, lcl_long, okR_nil, okR_int, okR_ref, okR_null, okR_long, pushR_some, pushR_none, va_rf_some, va_rf_none, true_and, and_true, true_implies, false_implies, not_true_eq_false, not_false_eq_true, implies_true, bI_eq0, bI_eq1, bI_01, Classical.not_not, or_em, false_and, and_false, hS.1, hS.2.1, hS.2.2.1, hS.2.2.2.1, kT_0, kT_1, kT_2, kT_15, kT_16, kT_17, kT_18, kT_19, kT_80, kT_81, kT_82, kT_89, kT_90, kT_91, kT_92, kT_93, kT_94, kT_95, kT_96, kT_97, kT_98, kT_99, kT_100, kT_101, nT_2, nT_16, nT_17, nT_19, nT_81, nT_82, nT_90, nT_91, nT_94, nT_95, nT_97, nT_98, nT_100, nT_101, rT_0_0, rT_0_3, rT_0_4, rT_0_5, rT_0_6, rT_0_7, rT_0_8, rT_0_9, rT_0_10, rT_1_0, rT_15_0, rT_15_1, rT_18_0, rT_80_0, rT_80_1, rT_89_0, rT_89_1, rT_93_6, rT_93_7, rT_96_0, rT_96_1, rT_99_0, rT_99_1, mI_wI, mI_wJ, mI_wR, mJ_wI, mJ_wJ, mJ_wR, mR_wI, mR_wJ, mR_wR, mK_wI, mK_wJ, mK_wR, mN_wI, mN_wJ, mN_wR, mZ_wI, mZ_wJ, mZ_wR, hcn', eo, nI_1, e0, e1, hM1, h182, hat, hk18]
    rw [rem_tail (m := 19) hS1 h182 ho]
    generalize hM2 : wI (cpSt M1 (20 + 3 * o) 15) 18 2 (nI (19 + 1)) = M2
    have hf2 : ∀ a, a ≠ 18 → a < 20 + 3 * o ∨ 20 + 3 * o + 2 < a → mI M2 a = mI M a := fun a g1 g2 => by rw [← hM2, mI_wI_ne g1, cpSt_fr g2, hf1 a g1]
    have hm : ∀ a, a ≠ 18 → a < 20 ∨ 79 < a → mI M2 a = mI M a := fun a g1 g2 => hf2 a g1 (by omega)
    have h182' : mI M2 18 2 = 20 := by rw [← hM2]; simp [mI_wI]; rfl
    obtain ⟨q2, q3, q4, q5, q6⟩ := kps M2 hm
    refine ⟨rfl, by rw [← hM2]; exact hS1, ⟨k0 M2 hm h182', q2, q3, q4, q5, q6, (o + 1) % 20, ho', ?_, fun i hi _ => ?_⟩, fun a ha => hm a (by omega) (by omega)⟩
    · rw [← hM2, mI_wI, if_neg (by simp), cpSt_fr (by omega), h181]
    · rw [pu_p hi, if_pos rfl]
      by_cases h19 : i = 19
      · rw [if_pos h19]
        have e9 : ((o + 1) % 20 + i) % 20 = o := by omega
        rw [e9]
        refine SN.kp (M := cpSt M1 (20 + 3 * o) 15) (S := σ 5) (cpSt_SN (by omega) (c3.kp (fun a g1 g2 => hf1 a (by omega)) (fun k _ => rfl))) (fun a g1 g2 => by rw [← hM2, mI_wI_ne (by omega)]) (fun k _ => rfl)
      · rw [if_neg h19]
        have e9 : ((o + 1) % 20 + i) % 20 = (o + (i + 1)) % 20 := by omega
        have e10 : (o + (i + 1)) % 20 ≠ o := by omega
        rw [e9]
        refine (cp (i + 1) (by omega) ?_).kp (fun a g1 g2 => hf2 a (by omega) (by omega)) (fun k _ => rfl)
        rw [hn, show (20 : Nat) = 20 from rfl, nI_ltE (by omega) (by decide)]
        omega
  · have hlt : n < 20 := by omega
    have hcn' : (nI n < 20) = True := by rw [show (20 : Int32) = nI 20 from rfl, nI_ltE (by omega) (by decide)]; exact eq_true hlt
    generalize hp : (o + n) % 20 = p
    have hp2 : p < 20 := by rw [← hp]; exact Nat.mod_lt _ (by decide)
    have hat : ∀ K, EvD 2 34 [.ref 18, .int (nI n)] M K = K (some (.ref (20 + 3 * p))) M := fun K => by
      have h := c_at (K := K) (d := 2) (Nat.le_refl 2) hS eo ho hlt
      rw [hp] at h
      exact h
    have hk18 : mK M 18 = 6 := by rw [hS.1]; rfl
    simp +decide only [e_35_0, e_35_1, e_35_4, e_35_6, e_35_9, e_35_10, e_35_11, e_35_14, e_35_15, e_35_16, e_35_18, e_35_19, e_35_22, e_35_23, e_35_23r, e_35_24, e_35_27, e_35_28, e_35_29, e_35_32, e_35_33, e_35_34, e_35_37, ↓reduceIte, Int32.reduceAdd, Int32.reduceSub, an_0, an_1, an_2, an_3, an_4, an_5, tc_0, tc_1, tc_2, tc_3, tc_4, tc_5, tc_6, tc_7, tc_8, tc_9, tc_10, tc_11, tc_12, tc_13, tc_14, tc_15, tc_16, tc_17, tc_18, tc_19, tc_20, tc_21, tc_22, tc_23, tc_24, tc_25, tc_26, tc_27, tc_28, tc_29, tc_30, tc_31, tc_32, lcl_none, lcl_int, lcl_ref, lcl_null, lcl_long, okR_nil, okR_int, okR_ref, okR_null, okR_long, pushR_some, pushR_none, va_rf_some, va_rf_none, true_and, and_true, true_implies, false_implies, not_true_eq_false, not_false_eq_true, implies_true, bI_eq0, bI_eq1, bI_01, Classical.not_not, or_em, false_and, and_false, hS.1, hS.2.1, hS.2.2.1, hS.2.2.2.1, kT_0, kT_1, kT_2, kT_15, kT_16, kT_17, kT_18, kT_19, kT_80, kT_81, kT_82, kT_89, kT_90, kT_91, kT_92, kT_93, kT_94, kT_95, kT_96, kT_97, kT_98, kT_99, kT_100, kT_101, nT_2, nT_16, nT_17, nT_19, nT_81, nT_82, nT_90, nT_91, nT_94, nT_95, nT_97, nT_98, nT_100, nT_101, rT_0_0, rT_0_3, rT_0_4, rT_0_5, rT_0_6, rT_0_7, rT_0_8, rT_0_9, rT_0_10, rT_1_0, rT_15_0, rT_15_1, rT_18_0, rT_80_0, rT_80_1, rT_89_0, rT_89_1, rT_93_6, rT_93_7, rT_96_0, rT_96_1, rT_99_0, rT_99_1, mI_wI, mI_wJ, mI_wR, mJ_wI, mJ_wJ, mJ_wR, mR_wI, mR_wJ, mR_wR, mK_wI, mK_wJ, mK_wR, mN_wI, mN_wJ, mN_wR, mZ_wI, mZ_wJ, mZ_wR, hcn, hcn', hat, hk18]
    rw [rem_tail (m := n) hS hcn hp2]
    generalize hM2 : wI (cpSt M (20 + 3 * p) 15) 18 2 (nI (n + 1)) = M2
    have hf2 : ∀ a, a ≠ 18 → a < 20 + 3 * p ∨ 20 + 3 * p + 2 < a → mI M2 a = mI M a := fun a g1 g2 => by rw [← hM2, mI_wI_ne g1, cpSt_fr g2]
    have hm : ∀ a, a ≠ 18 → a < 20 ∨ 79 < a → mI M2 a = mI M a := fun a g1 g2 => hf2 a g1 (by omega)
    have h182' : mI M2 18 2 = (if n = 20 then 20 else nI (n + 1)) := by rw [← hM2, if_neg h20]; simp [mI_wI]
    obtain ⟨q2, q3, q4, q5, q6⟩ := kps M2 hm
    refine ⟨rfl, by rw [← hM2]; exact hS, ⟨k0 M2 hm h182', q2, q3, q4, q5, q6, o, ho, ?_, fun i hi hin => ?_⟩, fun a ha => hm a (by omega) (by omega)⟩
    · rw [← hM2, mI_wI, if_neg (by simp), cpSt_fr (by omega), eo]
    · rw [pu_06, if_neg h20, nI_ltE (by omega) (by omega)] at hin
      rw [pu_p hi, if_neg h20]
      by_cases h19 : i = n
      · rw [if_pos h19, h19, hp]
        refine SN.kp (M := cpSt M (20 + 3 * p) 15) (S := σ 5) (cpSt_SN (by omega) c3) (fun a g1 g2 => by rw [← hM2, mI_wI_ne (by omega)]) (fun k _ => rfl)
      · rw [if_neg h19]
        have e10 : (o + i) % 20 ≠ p := by omega
        refine (cp i hi ?_).kp (fun a g1 g2 => hf2 a (by omega) (by omega)) (fun k _ => rfl)
        rw [hn, nI_ltE (by omega) (by omega)]
        omega
