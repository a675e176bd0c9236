/-! what is tried: the worth by both sides -/
def oqN (σ : Sg) (l : Nat) : Nat := (σ 2 l).toNatClampNeg
def vN (σ : Sg) : Nat := (σ 1 0).toNatClampNeg
def tN (σ : Sg) : Nat := (σ 1 1).toNatClampNeg
def pwN (σ : Sg) (P j : Nat) : Nat → Nat := pvN (vN σ) (tN σ) P (hsN (σ 5) (nI j)) (haN (σ 5))
def wC (σ : Sg) (L P j n : Nat) : Nat → Nat := wnN L (cfN (oqN σ) 0 0) (cfN (oqN σ) (σ 5 11) (σ 5 12)) (pwN σ P j) n
theorem toN_of {x : Int32} {n : Nat} {N : Int32} (hN : N.toInt = n) (hn : n < 2 ^ 31) (h : 0 ≤ x ∧ x ≤ N) : x = nI x.toNatClampNeg ∧ x.toNatClampNeg ≤ n := by
  obtain ⟨j, hj, rfl⟩ := nI_of2 (M := N) (n := n) hN (Int32.not_lt.mpr h.1) h.2
  rw [nI_clamp (by omega)]
  exact ⟨rfl, hj⟩
theorem hsha_dec : ∀ a0 a1 a2 a3 a4 c0 c1 c2 c3 c4 : Bool, (a0 = true → c0 = true) → (a1 = true → c1 = true) → (a2 = true → c2 = true) → (a3 = true → c3 = true) → (a4 = true → c4 = true) → ((cond a0 1 0 + cond a1 2 0 + cond a2 4 0 + cond a3 8 0 + cond a4 16 0) &&& (cond c0 1 0 + cond c1 2 0 + cond c2 4 0 + cond c3 8 0 + cond c4 16 0)) = (cond a0 1 0 + cond a1 2 0 + cond a2 4 0 + cond a3 8 0 + cond a4 16 0) := by decide +kernel
theorem hs_cond (S : Nat → Int32) (s : Int32) : hsN S s = (cond (decide (S 5 = s)) 1 0 + cond (decide (S 6 = s)) 2 0 + cond (decide (S 7 = s)) 4 0 + cond (decide (S 8 = s)) 8 0 + cond (decide (S 9 = s)) 16 0) := by
  have e : ∀ (p : Prop) [Decidable p] (n : Nat), (if p then n else 0) = cond (decide p) n 0 := fun p _ n => by by_cases h : p <;> simp [h]
  unfold hsN
  rw [e, e, e, e, e]
theorem ha_cond (S : Nat → Int32) : haN S = (cond (decide (S 5 ≠ -1)) 1 0 + cond (decide (S 6 ≠ -1)) 2 0 + cond (decide (S 7 ≠ -1)) 4 0 + cond (decide (S 8 ≠ -1)) 8 0 + cond (decide (S 9 ≠ -1)) 16 0) := by
  have e : ∀ (x : Int32) (n : Nat), (if x = -1 then 0 else n) = cond (decide (x ≠ -1)) n 0 := fun x n => by by_cases h : x = -1 <;> simp [h]
  unfold haN
  rw [e, e, e, e, e]
theorem hs_ha {S : Nat → Int32} {s : Int32} (hs : s ≠ -1) : hsN S s &&& haN S = hsN S s := by
  rw [hs_cond, ha_cond]
  have e : ∀ k, decide (S k = s) = true → decide (S k ≠ -1) = true := fun k h => by
    have h := of_decide_eq_true h
    rw [h]
    exact decide_eq_true hs
  exact hsha_dec _ _ _ _ _ _ _ _ _ _ (e 5) (e 6) (e 7) (e 8) (e 9)
theorem TR_of {L P j : Nat} {σ : Sg} (hI : IV L P σ) (hj : j < P) : TRp L P (vN σ) (oqN σ) (hsN (σ 5) (nI j)) (haN (σ 5)) (tN σ) := by
  obtain ⟨hL, hP, iL, iP⟩ := IV_n hI
  obtain ⟨-, -, -, -, ⟨hV, hT, -⟩, hq, -⟩ := hI
  exact ⟨hL, hP, (toN_of (n := 999) (N := 999) (by decide) (by decide) hV).2, (toN_of (n := 10) (N := 10) (by decide) (by decide) hT).2, hsN_lt _ _, haN_lt _, hs_ha (nI_ne_m1 (by omega)), fun l hl => (toN_of (n := 100) (N := 100) (by decide) (by decide) (hq l hl).1).2⟩
theorem MR_of {L P : Nat} {σ : Sg} {M : ab_M} (hI : IV L P σ) (hM : RM M σ) : MR M L P (vN σ) (oqN σ) (tN σ) (σ 5) := by
  obtain ⟨hL, hP, iL, iP⟩ := IV_n hI
  obtain ⟨-, -, -, -, ⟨hV, hT, -⟩, hq, -, hSI, -⟩ := hI
  obtain ⟨⟨⟨m1, m2, -⟩, -, t0, t1, -⟩, ⟨q1, -⟩, n1, -⟩ := hM
  exact ⟨m1.trans iL, m2.trans iP, t0.trans (toN_of (n := 999) (N := 999) (by decide) (by decide) hV).1, t1.trans (toN_of (n := 10) (N := 10) (by decide) (by decide) hT).1, fun l hl => (q1 l (by omega) (by rw [iL, nI_ltE (by omega) (by omega)]; exact hl)).1.trans (toN_of (n := 100) (N := 100) (by decide) (by decide) (hq l hl).1).1, n1, hSI.2.1⟩
theorem RC_scr {b : Bool} {M M1 : ab_M} {σ : Sg} (hC : RC b M σ) (hm : ∀ a, a < 93 → mI M1 a = mI M a) : RC b M1 σ := by
  obtain ⟨c1, c2, c3, c4, c5, c6, c7⟩ := hC
  have hb := chL_lt b
  exact ⟨c1.kp (fun a ha => hm a (by omega)) rfl rfl, c2.kp (fun a g1 g2 => hm a (by omega)) rfl rfl rfl rfl rfl, c3.kp (fun a g1 g2 => hm a (by omega)) (fun _ _ => rfl), c4.kp (hm _ (by omega)) rfl, c5.kp (hm _ (by omega)) (hm _ (by omega)) rfl rfl, c6.kp (fun a g1 g2 => hm a (by omega)) rfl rfl rfl rfl, c7.kp (congrFun (hm _ (by omega)) 1) (fun a g1 g2 => hm a (by omega)) rfl (fun _ _ => rfl)⟩
theorem RM_scr {M M1 : ab_M} {σ : Sg} (hM : RM M σ) (hm : ∀ a, 102 ≤ a → a < 119 → mI M1 a = mI M a) : RM M1 σ := by
  obtain ⟨m1, m2, m3, m4, m5, m6, m7⟩ := hM
  exact ⟨m1.kp (hm _ (by omega) (by omega)) (hm _ (by omega) (by omega)) rfl rfl, m2.kp (fun a g1 g2 => hm a (by omega) (by omega)) rfl rfl rfl rfl rfl, m3.kp (hm _ (by omega) (by omega)) rfl, m4.kp (hm _ (by omega) (by omega)) rfl, m5.kp (hm _ (by omega) (by omega)) rfl rfl, m6.kp (fun a g1 g2 => hm a (by omega) (by omega)) rfl rfl rfl rfl, m7.kp (hm _ (by omega) (by omega)) rfl (fun _ _ => rfl)⟩
/-- the class's trial holds this worth -/
def TW (b : Bool) (M : ab_M) (L : Nat) (f : Nat → Nat) : Prop := Sh b M ∧ mI M 93 5 = nI (2 ^ L) ∧ ∀ A, A < 2 ^ L → mJ M 95 A = lN (f A)
theorem c_asNow {d L P j : Nat} {b : Bool} {σ : Sg} {M : ab_M} (hd : 2 ≤ d) (hS : Sh b M) (hC : RC b M σ) (hI : IV L P σ) : EvD d 63 [.ref 93, .ref (chL b), .ref 15, .int (nI j)] M (fun r M1 => r = none ∧ Sh b M1 ∧ TR b M1 L P (vN σ) (oqN σ) (hsN (σ 5) (nI j)) (haN (σ 5)) (σ 5 11) (σ 5 12) (tN σ) ∧ ∀ a, a ≠ 93 → mI M1 a = mI M a) := by
  obtain ⟨hL, hP, iL, iP⟩ := IV_n hI
  obtain ⟨⟨⟨a1, a2, a3⟩, -, t0, t1, -⟩, ⟨c2, -⟩, ⟨n1, n2, n3, n4, n5, n6⟩, -⟩ := hC
  obtain ⟨-, -, -, -, ⟨hV, hT, -⟩, hq, -⟩ := hI
  have hb := chL_lt b
  have hk1 : mK M (chL b) = 1 := by rw [hS.1]; cases b <;> rfl
  have h1 : ∀ K, EvD 1 41 [.ref 15, .int (nI j)] M K = K (some (.int (nI (hsN (σ 5) (nI j))))) M := fun K => c_heldByC (d := 1) (Nat.le_refl 1) hS n2
  have n2' : ∀ k, k < 5 → mI (wI M 93 0 (nI (hsN (σ 5) (nI j)))) 17 k = σ 5 (5 + k) := fun k hk => by rw [mI_wI_ne (by decide)]; exact n2 k hk
  have h2 : ∀ K, EvD 1 42 [.ref 15] (wI M 93 0 (nI (hsN (σ 5) (nI j)))) K = K (some (.int (nI (haN (σ 5))))) (wI M 93 0 (nI (hsN (σ 5) (nI j)))) := fun K => c_heldAnyC (d := 1) (Nat.le_refl 1) (show Sh b (wI M 93 0 (nI (hsN (σ 5) (nI j)))) from hS) n2'
  have fC1 : ((chL b : Nat) = 93) = False := eq_false (by omega)
  rw [b_63 hd]
  simp +decide only [e_63_0, e_63_1, e_63_2, e_63_3, e_63_6, ↓reduceIte, Int32.reduceAdd, Int32.reduceSub, an_0, an_1, an_2, an_3, an_4, an_5, tc_0, tc_1, tc_2, tc_3, tc_4, tc_5, tc_6, tc_7, tc_8, tc_9, tc_10, tc_11, tc_12, tc_13, tc_14, tc_15, tc_16, tc_17, tc_18, tc_19, tc_20, tc_21, tc_22, tc_23, tc_24, tc_25, tc_26, tc_27, tc_28, tc_29, tc_30, tc_31, tc_32, lcl_none, lcl_int, lcl_ref, lcl_null, lcl_long, okR_nil, okR_int, okR_ref, okR_null, okR_long, pushR_some, pushR_none, va_rf_some, va_rf_none, true_and, and_true, true_implies, false_implies, not_true_eq_false, not_false_eq_true, implies_true, bI_eq0, bI_eq1, bI_01, Classical.not_not, or_em, false_and, and_false, hS.1, hS.2.1, hS.2.2.1, hS.2.2.2.1, kT_0, kT_1, kT_2, kT_15, kT_16, kT_17, kT_18, kT_19, kT_80, kT_81, kT_82, kT_89, kT_90, kT_91, kT_92, kT_93, kT_94, kT_95, kT_96, kT_97, kT_98, kT_99, kT_100, kT_101, nT_2, nT_16, nT_17, nT_19, nT_81, nT_82, nT_90, nT_91, nT_94, nT_95, nT_97, nT_98, nT_100, nT_101, rT_0_0, rT_0_3, rT_0_4, rT_0_5, rT_0_6, rT_0_7, rT_0_8, rT_0_9, rT_0_10, rT_1_0, rT_15_0, rT_15_1, rT_18_0, rT_80_0, rT_80_1, rT_89_0, rT_89_1, rT_93_6, rT_93_7, rT_96_0, rT_96_1, rT_99_0, rT_99_1, h1]
  simp +decide only [e_63_9, e_63_10, e_63_11, e_63_14, e_63_17, e_63_18, e_63_19, e_63_22, e_63_25, e_63_26, e_63_27, e_63_30, e_63_33, e_63_34, e_63_35, e_63_38, e_63_41, ↓reduceIte, Int32.reduceAdd, Int32.reduceSub, an_0, an_1, an_2, an_3, an_4, an_5, tc_0, tc_1, tc_2, tc_3, tc_4, tc_5, tc_6, tc_7, tc_8, tc_9, tc_10, tc_11, tc_12, tc_13, tc_14, tc_15, tc_16, tc_17, tc_18, tc_19, tc_20, tc_21, tc_22, tc_23, tc_24, tc_25, tc_26, tc_27, tc_28, tc_29, tc_30, tc_31, tc_32, lcl_none, lcl_int, lcl_ref, lcl_null, lcl_long, okR_nil, okR_int, okR_ref, okR_null, okR_long, pushR_some, pushR_none, va_rf_some, va_rf_none, true_and, and_true, true_implies, false_implies, not_true_eq_false, not_false_eq_true, implies_true, bI_eq0, bI_eq1, bI_01, Classical.not_not, or_em, false_and, and_false, hS.1, hS.2.1, hS.2.2.1, hS.2.2.2.1, kT_0, kT_1, kT_2, kT_15, kT_16, kT_17, kT_18, kT_19, kT_80, kT_81, kT_82, kT_89, kT_90, kT_91, kT_92, kT_93, kT_94, kT_95, kT_96, kT_97, kT_98, kT_99, kT_100, kT_101, nT_2, nT_16, nT_17, nT_19, nT_81, nT_82, nT_90, nT_91, nT_94, nT_95, nT_97, nT_98, nT_100, nT_101, rT_0_0, rT_0_3, rT_0_4, rT_0_5, rT_0_6, rT_0_7, rT_0_8, rT_0_9, rT_0_10, rT_1_0, rT_15_0, rT_15_1, rT_18_0, rT_80_0, rT_80_1, rT_89_0, rT_89_1, rT_93_6, rT_93_7, rT_96_0, rT_96_1, rT_99_0, rT_99_1, chS1, chK, chR7, chK7, chN7, chR8, chK8, chN8, chR9, chK9, chN9, chR10, chK10, chN10, chR11, chK11, chN11, mI_wI, mI_wJ, mI_wR, mJ_wI, mJ_wJ, mJ_wR, mR_wI, mR_wJ, mR_wR, mK_wI, mK_wJ, mK_wR, mN_wI, mN_wJ, mN_wR, mZ_wI, mZ_wJ, mZ_wR, h2, n4, n5, t1, fC1]
  refine ⟨hS, ⟨⟨?_, ?_, ?_, fun l hl => ?_⟩, ?_, ?_, ?_, ?_, ?_⟩, fun a ha => ?_⟩
  · simp [mI_wI, fC1]; exact a1.trans iL
  · simp [mI_wI, fC1]; exact a2.trans iP
  · simp [mI_wI, fC1]; exact t0.trans (toN_of (n := 999) (N := 999) (by decide) (by decide) hV).1
  · have f2 : ((chL b + 1 : Nat) = 93) = False := eq_false (by omega)
    simp only [mI_wI, f2, false_and, if_false]
    exact (c2 l (by omega) (by rw [iL, nI_ltE (by omega) (by omega)]; exact hl)).1.trans (toN_of (n := 100) (N := 100) (by decide) (by decide) (hq l hl).1).1
  · simp [mI_wI]
  · simp [mI_wI]
  · simp [mI_wI]
  · simp [mI_wI]
  · simp [mI_wI]; exact (toN_of (n := 10) (N := 10) (by decide) (by decide) hT).1
  · rw [mI_wI_ne ha, mI_wI_ne ha, mI_wI_ne ha, mI_wI_ne ha, mI_wI_ne ha]
theorem C_look {d L P j n : Nat} {b : Bool} {σ : Sg} {g h : Int32} {T : Nat} {M : ab_M} (hd : 4 ≤ d) (hS : Sh b M) (hp : TRp L P (vN σ) (oqN σ) (hsN (σ 5) (nI j)) (haN (σ 5)) T) (hT : TR b M L P (vN σ) (oqN σ) (hsN (σ 5) (nI j)) (haN (σ 5)) g h T) (hn : n ≤ 20) : EvD d 65 [.ref 93, .ref (chL b), .int (nI n)] M (fun r M1 => r = none ∧ TW b M1 L (wnN L (cfN (oqN σ) 0 0) (cfN (oqN σ) g h) (pvN (vN σ) T P (hsN (σ 5) (nI j)) (haN (σ 5))) n) ∧ ∀ a, a ≠ 93 → mI M1 a = mI M a) := by
  refine EvD_mono (c_look hd hS hp hT hn) ?_
  rintro r M1 ⟨rfl, hS1, h5, hf, -, hw⟩
  exact ⟨rfl, ⟨hS1, h5, hw⟩, hf⟩
theorem c_worthWith {d L a : Nat} {b : Bool} {f : Nat → Nat} {M : ab_M} {K : ab_Q} (hd : 1 ≤ d) (hW : TW b M L f) (hL : L ≤ 5) (ha : a < 2 ^ L) : EvD d 69 [.ref 93, .int (nI a)] M K = K (some (.long (lN (f a)))) M := by
  obtain ⟨hS, h5, hf⟩ := hW
  have h32 := pow_L hL
  have h1 : (nI a < 0) = False := eq_false (nI_pos (by omega))
  have h1' : (0 ≤ nI a) = True := eq_true (nI_pos' (by omega))
  have h2 : (nI (2 ^ L) ≤ nI a) = False := by rw [nI_leE (by omega) (by omega)]; exact eq_false (by omega)
  have hcl : (nI a).toNatClampNeg = a := nI_clamp (by omega)
  have hin : inX (nI a) 32 = True := eq_true (inX_nI (by decide) (by omega))
  rw [b_69 hd]
  simp +decide only [e_69_0, e_69_1, e_69_4, e_69_5, e_69_6, e_69_9, e_69_12, e_69_13, e_69_16, e_69_17, e_69_18, e_69_21, e_69_22, ↓reduceIte, Int32.reduceAdd, Int32.reduceSub, an_0, an_1, an_2, an_3, an_4, an_5, tc_0, tc_1, tc_2, tc_3, tc_4, tc_5, tc_6, tc_7, tc_8, tc_9, tc_10, tc_11, tc_12, tc_13, tc_14, tc_15, tc_16, tc_17, tc_18, tc_19, tc_20, tc_21, tc_22, tc_23, tc_24, tc_25, tc_26, tc_27, tc_28, tc_29, tc_30, tc_31, tc_32, lcl_none, lcl_int, lcl_ref, lcl_null, lcl_long, okR_nil, okR_int, okR_ref, okR_null, okR_long, pushR_some, pushR_none, va_rf_some, va_rf_none, true_and, and_true, true_implies, false_implies, not_true_eq_false, not_false_eq_true, implies_true, bI_eq0, bI_eq1, bI_01, Classical.not_not, or_em, false_and, and_false, hS.1, hS.2.1, hS.2.2.1, hS.2.2.2.1, kT_0, kT_1, kT_2, kT_15, kT_16, kT_17, kT_18, kT_19, kT_80, kT_81, kT_82, kT_89, kT_90, kT_91, kT_92, kT_93, kT_94, kT_95, kT_96, kT_97, kT_98, kT_99, kT_100, kT_101, nT_2, nT_16, nT_17, nT_19, nT_81, nT_82, nT_90, nT_91, nT_94, nT_95, nT_97, nT_98, nT_100, nT_101, rT_0_0, rT_0_3, rT_0_4, rT_0_5, rT_0_6, rT_0_7, rT_0_8, rT_0_9, rT_0_10, rT_1_0, rT_15_0, rT_15_1, rT_18_0, rT_80_0, rT_80_1, rT_89_0, rT_89_1, rT_93_6, rT_93_7, rT_96_0, rT_96_1, rT_99_0, rT_99_1, h5, h1, h1', h2, hcl, hin, hf a ha]
def clN (a l : Nat) : Nat := a - a / 2 ^ l % 2 * 2 ^ l
def seN (a l : Nat) : Nat := a + (1 - a / 2 ^ l % 2) * 2 ^ l
theorem clN_le (a l : Nat) : clN a l ≤ a := Nat.sub_le _ _
theorem se_nI : ∀ a, a < 32 → ∀ l, l < 5 → nI a ||| ((1 : Int32) <<< (nI l &&& 31)) = nI (seN a l) := by decide +kernel
theorem seN_lt : ∀ L, L ≤ 5 → ∀ a, a < 2 ^ L → ∀ l, l < L → seN a l < 2 ^ L := by
  have h : ∀ L, L ≤ 5 → ∀ l, l < L → ∀ a, a < 2 ^ L → seN a l < 2 ^ L := by
    have h1 : ∀ L, L < 6 → ∀ l, l < L → ∀ a, a < 2 ^ L → seN a l < 2 ^ L := by decide +kernel
    exact fun L hL => h1 L (by omega)
  exact fun L hL a ha l hl => h L hL l hl a ha
theorem seN_a {a l : Nat} (h : a / 2 ^ l % 2 = 1) : seN a l = a := by unfold seN; rw [h]; simp
theorem c_gainByC {d L a l : Nat} {b : Bool} {f : Nat → Nat} {M : ab_M} {K : ab_Q} (hd : 2 ≤ d) (hW : TW b M L f) (hL : L ≤ 5) (ha : a < 2 ^ L) (hl : l < 5) : EvD d 70 [.ref 93, .int (nI l), .int (nI a)] M K = K (some (.long (lN (f (clN a l)) - lN (f a)))) M := by
  have h32 := pow_L hL
  have e := clr_nI a (by omega) l hl
  rw [b_70 hd]
  have hle := clN_le a l
  have e2 : nI a &&& ((1 : Int32) <<< (nI l &&& 31) ^^^ (-1)) = nI (clN a l) := e
  simp +decide only [e_70_0, e_70_1, e_70_2, e_70_3, e_70_4, e_70_5, e_70_6, e_70_7, e_70_8, e_70_11, e_70_12, e_70_13, e_70_16, e_70_17, ↓reduceIte, Int32.reduceAdd, Int32.reduceSub, an_0, an_1, an_2, an_3, an_4, an_5, tc_0, tc_1, tc_2, tc_3, tc_4, tc_5, tc_6, tc_7, tc_8, tc_9, tc_10, tc_11, tc_12, tc_13, tc_14, tc_15, tc_16, tc_17, tc_18, tc_19, tc_20, tc_21, tc_22, tc_23, tc_24, tc_25, tc_26, tc_27, tc_28, tc_29, tc_30, tc_31, tc_32, lcl_none, lcl_int, lcl_ref, lcl_null, lcl_long, okR_nil, okR_int, okR_ref, okR_null, okR_long, pushR_some, pushR_none, va_rf_some, va_rf_none, true_and, and_true, true_implies, false_implies, not_true_eq_false, not_false_eq_true, implies_true, bI_eq0, bI_eq1, bI_01, Classical.not_not, or_em, false_and, and_false, hW.1.1, kT_93, e2, c_worthWith (d := 1) (Nat.le_refl 1) hW hL ha, c_worthWith (d := 1) (Nat.le_refl 1) hW hL (Nat.lt_of_le_of_lt hle ha)]
theorem c_gainByM {d L P n l a j : Nat} {b : Bool} {σ : Sg} {M : ab_M} (hd : 6 ≤ d) (hS : Sh b M) (hM : RM M σ) (hI : IV L P σ) (ha : σ 5 10 = nI a) (ha2 : a < 2 ^ L) (hj : j < P) (hl : l < L) (hn : n ≤ 20) : EvD d 160 [.ref 102, .int (nI j), .int (nI l), .int (nI n)] M (fun r M1 => r = some (.int (nI (wC σ L P j n (clN (seN a l) l)) - nI (wC σ L P j n (seN a l)))) ∧ Sh b M1 ∧ mI M1 = mI M) := by
  obtain ⟨hL, hP, iL, iP⟩ := IV_n hI
  have h32 := pow_L hL
  have h10 : mI M 111 10 = nI a := (hM.2.2.1 10 (by decide)).trans ha
  have e1 := se_nI a (by omega) l (by omega)
  have h3 := seN_lt L hL a ha2 l hl
  have e2 : nI (seN a l) &&& ((1 : Int32) <<< (nI l &&& 31) ^^^ (-1)) = nI (clN (seN a l) l) := clr_nI _ (by omega) l (by omega)
  have hle := clN_le (seN a l) l
  rw [b_160 hd]
  simp +decide only [e_160_0, e_160_1, e_160_4, e_160_6, e_160_7, e_160_8, e_160_9, e_160_10, e_160_11, e_160_13, e_160_14, e_160_15, e_160_16, e_160_18, e_160_19, e_160_20, e_160_21, e_160_22, e_160_23, e_160_24, ↓reduceIte, Int32.reduceAdd, Int32.reduceSub, an_0, an_1, an_2, an_3, an_4, an_5, tc_0, tc_1, tc_2, tc_3, tc_4, tc_5, tc_6, tc_7, tc_8, tc_9, tc_10, tc_11, tc_12, tc_13, tc_14, tc_15, tc_16, tc_17, tc_18, tc_19, tc_20, tc_21, tc_22, tc_23, tc_24, tc_25, tc_26, tc_27, tc_28, tc_29, tc_30, tc_31, tc_32, lcl_none, lcl_int, lcl_ref, lcl_null, lcl_long, okR_nil, okR_int, okR_ref, okR_null, okR_long, pushR_some, pushR_none, va_rf_some, va_rf_none, true_and, and_true, true_implies, false_implies, not_true_eq_false, not_false_eq_true, implies_true, bI_eq0, bI_eq1, bI_01, Classical.not_not, or_em, false_and, and_false, hS.1, hS.2.1, hS.2.2.1, hS.2.2.2.1, kT_102, kT_103, kT_104, kT_105, kT_106, kT_107, kT_108, kT_109, kT_110, kT_111, kT_112, kT_113, kT_114, kT_115, kT_116, kT_117, kT_118, kT_119, kT_120, nT_103, nT_104, nT_105, nT_106, nT_107, nT_108, nT_109, nT_110, nT_111, nT_112, nT_113, nT_114, nT_115, nT_116, nT_117, nT_118, nT_119, nT_120, rT_102_1, rT_102_12, rT_102_13, rT_102_14, rT_102_18, rT_102_19, rT_102_20, rT_102_21, rT_102_22, rT_102_23, rT_102_25, rT_102_26, rT_102_27, rT_102_30, rT_102_31, rT_102_32, rT_102_33, rT_102_34, h10, e1, e2]
  refine EvD_mono (c_worthNow (d := 5) (Nat.le_refl 5) hS (MR_of hI hM) (TR_of hI hj) (nI_ne_m1 (by omega)) (Nat.lt_of_le_of_lt hle h3) hn) ?_
  rintro r M1 ⟨rfl, hS1, hI1⟩
  have hM1 : RM M1 σ := RM_scr hM (fun a _ _ => by rw [hI1])
  simp +decide only [e_160_27, e_160_28, e_160_29, e_160_30, e_160_32, ↓reduceIte, Int32.reduceAdd, Int32.reduceSub, an_0, an_1, an_2, an_3, an_4, an_5, tc_0, tc_1, tc_2, tc_3, tc_4, tc_5, tc_6, tc_7, tc_8, tc_9, tc_10, tc_11, tc_12, tc_13, tc_14, tc_15, tc_16, tc_17, tc_18, tc_19, tc_20, tc_21, tc_22, tc_23, tc_24, tc_25, tc_26, tc_27, tc_28, tc_29, tc_30, tc_31, tc_32, lcl_none, lcl_int, lcl_ref, lcl_null, lcl_long, okR_nil, okR_int, okR_ref, okR_null, okR_long, pushR_some, pushR_none, va_rf_some, va_rf_none, true_and, and_true, true_implies, false_implies, not_true_eq_false, not_false_eq_true, implies_true, bI_eq0, bI_eq1, bI_01, Classical.not_not, or_em, false_and, and_false, hS1.1, kT_102]
  refine EvD_mono (c_worthNow (d := 5) (Nat.le_refl 5) hS1 (MR_of hI hM1) (TR_of hI hj) (nI_ne_m1 (by omega)) h3 hn) ?_
  rintro r M2 ⟨rfl, hS2, hI2⟩
  simp +decide only [e_160_35, e_160_36, ↓reduceIte, Int32.reduceAdd, Int32.reduceSub, an_0, an_1, an_2, an_3, an_4, an_5, tc_0, tc_1, tc_2, tc_3, tc_4, tc_5, tc_6, tc_7, tc_8, tc_9, tc_10, tc_11, tc_12, tc_13, tc_14, tc_15, tc_16, tc_17, tc_18, tc_19, tc_20, tc_21, tc_22, tc_23, tc_24, tc_25, tc_26, tc_27, tc_28, tc_29, tc_30, tc_31, tc_32, lcl_none, lcl_int, lcl_ref, lcl_null, lcl_long, okR_nil, okR_int, okR_ref, okR_null, okR_long, pushR_some, pushR_none, va_rf_some, va_rf_none, true_and, and_true, true_implies, false_implies, not_true_eq_false, not_false_eq_true, implies_true, bI_eq0, bI_eq1, bI_01, Classical.not_not, or_em, false_and, and_false]
  exact ⟨rfl, hS2, hI2.trans hI1⟩
