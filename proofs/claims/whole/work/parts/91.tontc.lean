/-! tontine, the class -/
theorem ch_dl (b : Bool) : (chL b = 3 ∧ dl b = 9) ∨ (chL b = 9 ∧ dl b = 3) := by cases b <;> simp [chL, dl]
theorem c_place {d p : Nat} {b : Bool} {k v : Int32} {M : ab_M} {K : ab_Q} (hd : 1 ≤ d) (hS : Sh b M) : EvD d 50 [.ref 1] (tx M p k v) K = K (some (.int v)) (tx M p k v) := by
  have hk1 : mK M 1 = 8 := by rw [hS.1]; rfl
  rw [b_50 hd]
  simp +decide only [e_50_0, e_50_1, e_50_4, ↓reduceIte, Int32.reduceAdd, Int32.reduceSub, an_0, an_1, an_2, an_3, an_4, an_5, tc_0, tc_1, tc_2, tc_3, tc_4, tc_5, tc_6, tc_7, tc_8, tc_9, tc_10, tc_11, tc_12, tc_13, tc_14, tc_15, tc_16, tc_17, tc_18, tc_19, tc_20, tc_21, tc_22, tc_23, tc_24, tc_25, tc_26, tc_27, tc_28, tc_29, tc_30, tc_31, tc_32, lcl_none, lcl_int, lcl_ref, lcl_null, lcl_long, okR_nil, okR_int, okR_ref, okR_null, okR_long, pushR_some, pushR_none, va_rf_some, va_rf_none, true_and, and_true, true_implies, false_implies, not_true_eq_false, not_false_eq_true, implies_true, bI_eq0, bI_eq1, bI_01, Classical.not_not, or_em, false_and, and_false, mK_tx, hk1, tx_4]
theorem c_empty {d : Nat} {b : Bool} {M : ab_M} {K : ab_Q} (hd : 1 ≤ d) (hS : Sh b M) : EvD d 49 [.ref 1] M K = K none (wI M 1 1 0) := by
  have hk1 : mK M 1 = 8 := by rw [hS.1]; rfl
  rw [b_49 hd]
  simp +decide only [e_49_0, e_49_1, e_49_2, e_49_5, ↓reduceIte, Int32.reduceAdd, Int32.reduceSub, an_0, an_1, an_2, an_3, an_4, an_5, tc_0, tc_1, tc_2, tc_3, tc_4, tc_5, tc_6, tc_7, tc_8, tc_9, tc_10, tc_11, tc_12, tc_13, tc_14, tc_15, tc_16, tc_17, tc_18, tc_19, tc_20, tc_21, tc_22, tc_23, tc_24, tc_25, tc_26, tc_27, tc_28, tc_29, tc_30, tc_31, tc_32, lcl_none, lcl_int, lcl_ref, lcl_null, lcl_long, okR_nil, okR_int, okR_ref, okR_null, okR_long, pushR_some, pushR_none, va_rf_some, va_rf_none, true_and, and_true, true_implies, false_implies, not_true_eq_false, not_false_eq_true, implies_true, bI_eq0, bI_eq1, bI_01, Classical.not_not, or_em, false_and, and_false, hk1]
def tT (σ : Sg) : Nat → Int32 := fun k => nnI (σ 6 k)
theorem TT_of {b : Bool} {M : ab_M} {σ : Sg} {N : Nat} (hS : Sh b M) (hC : RC b M σ) (hN : σ 0 5 = nI N) (hN2 : N ≤ 220) : TT b M (tT σ) N := ⟨hS, hC.1.2.1.2.2.1.trans hN, hN2, fun i hi => hC.2.2.2.1 i hi⟩
theorem C_tonF {N n m : Nat} {b hp : Bool} {σ : Sg} {D : Nat → Nat → Int32} {kd v : Int32} {M : ab_M} (hS : Sh b M) (hC : RC b M σ) (hN : σ 0 5 = nI N) (hN2 : N ≤ 220) (hk : kd ≠ 0) (hc : PcF (tT σ) N (skP (tT σ) N 0) false 0 0 D0 kd v) : EvD 20 74 [.ref 0] M (fun r M1 => r = some (.int (-10 - kd)) ∧ Sh b M1 ∧ frC M M1 ∧ RC b M1 (u2 (u2 σ 0 3 v) 0 5 0)) := by
  have hT := TT_of hS hC hN hN2
  have hk' : (kd = 0) = False := eq_false hk
  rw [b_74 (by decide)]
  simp +decide only [e_74_0, e_74_1, e_74_4, e_74_5, e_74_8, ↓reduceIte, Int32.reduceAdd, Int32.reduceSub, an_0, an_1, an_2, an_3, an_4, an_5, tc_0, tc_1, tc_2, tc_3, tc_4, tc_5, tc_6, tc_7, tc_8, tc_9, tc_10, tc_11, tc_12, tc_13, tc_14, tc_15, tc_16, tc_17, tc_18, tc_19, tc_20, tc_21, tc_22, tc_23, tc_24, tc_25, tc_26, tc_27, tc_28, tc_29, tc_30, tc_31, tc_32, lcl_none, lcl_int, lcl_ref, lcl_null, lcl_long, okR_nil, okR_int, okR_ref, okR_null, okR_long, pushR_some, pushR_none, va_rf_some, va_rf_none, true_and, and_true, true_implies, false_implies, not_true_eq_false, not_false_eq_true, implies_true, bI_eq0, bI_eq1, bI_01, Classical.not_not, or_em, false_and, and_false, hS.1, hS.2.1, hS.2.2.1, hS.2.2.2.1, kT_0, kT_1, kT_2, kT_15, kT_16, kT_17, kT_18, kT_19, kT_80, kT_81, kT_82, kT_89, kT_90, kT_91, kT_92, kT_93, kT_94, kT_95, kT_96, kT_97, kT_98, kT_99, kT_100, kT_101, nT_2, nT_16, nT_17, nT_19, nT_81, nT_82, nT_90, nT_91, nT_94, nT_95, nT_97, nT_98, nT_100, nT_101, rT_0_0, rT_0_3, rT_0_4, rT_0_5, rT_0_6, rT_0_7, rT_0_8, rT_0_9, rT_0_10, rT_1_0, rT_15_0, rT_15_1, rT_18_0, rT_80_0, rT_80_1, rT_89_0, rT_89_1, rT_93_6, rT_93_7, rT_96_0, rT_96_1, rT_99_0, rT_99_1, rT_0_0, dS2]
  refine C_read hT (hc b (clM b M) 0 (-1) _ (TT_cl hT) CD_cl (Nat.zero_le _) (fun M1 p' hS1 hF1 => ?_))
  have hS2 : Sh b (wI (tx M1 p' kd v) 0 11 v) := hS1
  have hS3 : Sh b (tx M1 p' kd v) := hS1
  simp +decide only [e_74_11, e_74_12, e_74_13, e_74_14, e_74_17, e_74_20, e_74_23, e_74_24, e_74_27, e_74_30, e_74_31, e_74_34, e_74_36, e_74_37, e_74_38, ↓reduceIte, Int32.reduceAdd, Int32.reduceSub, an_0, an_1, an_2, an_3, an_4, an_5, tc_0, tc_1, tc_2, tc_3, tc_4, tc_5, tc_6, tc_7, tc_8, tc_9, tc_10, tc_11, tc_12, tc_13, tc_14, tc_15, tc_16, tc_17, tc_18, tc_19, tc_20, tc_21, tc_22, tc_23, tc_24, tc_25, tc_26, tc_27, tc_28, tc_29, tc_30, tc_31, tc_32, lcl_none, lcl_int, lcl_ref, lcl_null, lcl_long, okR_nil, okR_int, okR_ref, okR_null, okR_long, pushR_some, pushR_none, va_rf_some, va_rf_none, true_and, and_true, true_implies, false_implies, not_true_eq_false, not_false_eq_true, implies_true, bI_eq0, bI_eq1, bI_01, Classical.not_not, or_em, false_and, and_false, hS1.1, hS3.1, hS3.2.2.1, kT_0, kT_1, kT_2, kT_15, kT_16, kT_17, kT_18, kT_19, kT_80, kT_81, kT_82, kT_89, kT_90, kT_91, kT_92, kT_93, kT_94, kT_95, kT_96, kT_97, kT_98, kT_99, kT_100, kT_101, nT_2, nT_16, nT_17, nT_19, nT_81, nT_82, nT_90, nT_91, nT_94, nT_95, nT_97, nT_98, nT_100, nT_101, rT_0_0, rT_0_3, rT_0_4, rT_0_5, rT_0_6, rT_0_7, rT_0_8, rT_0_9, rT_0_10, rT_1_0, rT_15_0, rT_15_1, rT_18_0, rT_80_0, rT_80_1, rT_89_0, rT_89_1, rT_93_6, rT_93_7, rT_96_0, rT_96_1, rT_99_0, rT_99_1, rT_0_0, mK_wI, mR_wI, c_place (d := 6) (by decide) hS1, c_empty (d := 6) (by decide) hS2, hk']
  have hcd := ch_dl b
  have hf : ∀ a, a ≠ 0 → a ≠ 1 → (a < dl b ∨ dl b + 5 < a) → mI (wI (wI (tx M1 p' kd v) 0 11 v) 1 1 0) a = mI M a := fun a h0 h1 h2 => by
    rw [mI_wI_ne h1, mI_wI_ne h0, tx_o h1, hF1 a h2]
    exact FC_cl a h2
  have h011 : mI (wI (wI (tx M1 p' kd v) 0 11 v) 1 1 0) 0 11 = v := by simp [mI_wI]
  have h11 : mI (wI (wI (tx M1 p' kd v) 0 11 v) 1 1 0) 1 1 = 0 := by simp [mI_wI]
  have hs : ∀ j, j ≠ 0 → u2 (u2 σ 0 3 v) 0 5 0 j = σ j := fun j hj => by rw [u2_ne hj, u2_ne hj]
  have h0k : ∀ k, k ≠ 3 → k ≠ 5 → u2 (u2 σ 0 3 v) 0 5 0 0 k = σ 0 k := fun k h3 h5 => by rw [u2_nk h5, u2_nk h3]
  obtain ⟨c1, c2, c3, c4, c5, c6, c7⟩ := hC
  refine ⟨hS1, fun a ha => hf a (by omega) (by omega) (by omega), ?_, c2.kp (fun a g1 g2 => hf a (by omega) (by omega) (by omega)) (h0k _ (by decide) (by decide)) (h0k _ (by decide) (by decide)) (hs _ (by decide)) (hs _ (by decide)) (hs _ (by decide)), c3.kp (fun a g1 g2 => hf a (by omega) (by omega) (by omega)) (fun k _ => by rw [hs _ (by decide)]), c4.kp (hf _ (by decide) (by decide) (by omega)) (hs _ (by decide)), c5.kp (hf _ (by decide) (by decide) (by omega)) (hf _ (by decide) (by decide) (by omega)) (hs _ (by decide)) (hs _ (by decide)), c6.kp (fun a g1 g2 => hf a (by omega) (by omega) (by omega)) (hs _ (by decide)) (hs _ (by decide)) (hs _ (by decide)) (hs _ (by decide)), c7.kp (congrFun (hf _ (by decide) (by decide) (by omega)) 1) (fun a g1 g2 => hf a (by omega) (by omega) (by omega)) (h0k _ (by decide) (by decide)) (fun i _ => hs _ (by omega))⟩
  have h0 := c1
  unfold RC0 at h0 ⊢
  rw [hf (chL b) (by omega) (by omega) (by omega), h011, h11, hf 92 (by decide) (by decide) (by omega), hf 18 (by decide) (by decide) (by omega), hf 89 (by decide) (by decide) (by omega), h0k 0 (by decide) (by decide), h0k 1 (by decide) (by decide), h0k 2 (by decide) (by decide), h0k 4 (by decide) (by decide), h0k 6 (by decide) (by decide), h0k 7 (by decide) (by decide), hs 1 (by decide)]
  refine ⟨h0.1, ⟨?_, h0.2.1.2.1, ?_, h0.2.1.2.2.2.1, h0.2.1.2.2.2.2⟩, h0.2.2⟩
  · rw [u2_nk (by decide), u2_at]
  · rw [u2_at]
def beS (D : Nat → Nat → Int32) (n m : Nat) : Nat → Int32 := fun k => if k < 5 then (if k < m then D 4 k else 0) else if k < 10 then (if k - 5 < n then hoF D m (k - 5) else -1) else if k = 10 then nI (2 ^ n - 1) else 0
def tnS (σ : Sg) (hp : Bool) (n m : Nat) (D : Nat → Nat → Int32) : Sg := fun j k => if j = 0 then (if k = 0 then nI n else if k = 1 then nI m else if k = 2 then b01 hp else if k = 3 then -1 else if k = 4 then σ 0 4 else 0) else if j = 1 then D 1 k else if j = 2 then D 2 k else if j = 3 then D 3 k else if j = 4 then D 5 k else if j = 5 then beS D n m k else if j = 12 then 0 else σ j k
theorem tn_o {σ : Sg} {hp : Bool} {n m j : Nat} {D : Nat → Nat → Int32} (h : 5 < j) (h2 : j ≠ 12) : tnS σ hp n m D j = σ j := by
  funext k
  unfold tnS
  rw [if_neg (by omega), if_neg (by omega), if_neg (by omega), if_neg (by omega), if_neg (by omega), if_neg (by omega), if_neg h2]
theorem C_tonS {N n m : Nat} {b hp : Bool} {σ : Sg} {D : Nat → Nat → Int32} {M : ab_M} (hS : Sh b M) (hC : RC b M σ) (hN : σ 0 5 = nI N) (hN2 : N ≤ 220) (hv : DV hp n m D) (hc : PcS (tT σ) N (skP (tT σ) N 0) false 0 0 D0 hp n m D) : EvD 20 74 [.ref 0] M (fun r M1 => r = some (.int (nI n)) ∧ Sh (!b) M1 ∧ frC M M1 ∧ RC (!b) M1 (tnS σ hp n m D)) := by
  have hT := TT_of hS hC hN hN2
  rw [b_74 (by decide)]
  simp +decide only [e_74_0, e_74_1, e_74_4, e_74_5, e_74_8, ↓reduceIte, Int32.reduceAdd, Int32.reduceSub, an_0, an_1, an_2, an_3, an_4, an_5, tc_0, tc_1, tc_2, tc_3, tc_4, tc_5, tc_6, tc_7, tc_8, tc_9, tc_10, tc_11, tc_12, tc_13, tc_14, tc_15, tc_16, tc_17, tc_18, tc_19, tc_20, tc_21, tc_22, tc_23, tc_24, tc_25, tc_26, tc_27, tc_28, tc_29, tc_30, tc_31, tc_32, lcl_none, lcl_int, lcl_ref, lcl_null, lcl_long, okR_nil, okR_int, okR_ref, okR_null, okR_long, pushR_some, pushR_none, va_rf_some, va_rf_none, true_and, and_true, true_implies, false_implies, not_true_eq_false, not_false_eq_true, implies_true, bI_eq0, bI_eq1, bI_01, Classical.not_not, or_em, false_and, and_false, hS.1, hS.2.1, hS.2.2.1, hS.2.2.2.1, kT_0, kT_1, kT_2, kT_15, kT_16, kT_17, kT_18, kT_19, kT_80, kT_81, kT_82, kT_89, kT_90, kT_91, kT_92, kT_93, kT_94, kT_95, kT_96, kT_97, kT_98, kT_99, kT_100, kT_101, nT_2, nT_16, nT_17, nT_19, nT_81, nT_82, nT_90, nT_91, nT_94, nT_95, nT_97, nT_98, nT_100, nT_101, rT_0_0, rT_0_3, rT_0_4, rT_0_5, rT_0_6, rT_0_7, rT_0_8, rT_0_9, rT_0_10, rT_1_0, rT_15_0, rT_15_1, rT_18_0, rT_80_0, rT_80_1, rT_89_0, rT_89_1, rT_93_6, rT_93_7, rT_96_0, rT_96_1, rT_99_0, rT_99_1, rT_0_0, dS2]
  refine C_read hT (hc b (clM b M) 0 (-1) _ (TT_cl hT) CD_cl (Nat.zero_le _) (fun M1 p' hS1 hF1 hC1 => ?_))
  have hS2 : Sh b (wI (tx M1 p' 0 (-1)) 0 11 (-1)) := hS1
  have hS3 : Sh b (tx M1 p' 0 (-1)) := hS1
  have hS4 : Sh b (wI (wI (tx M1 p' 0 (-1)) 0 11 (-1)) 1 1 0) := hS1
  have hcd := ch_dl b
  simp +decide only [e_74_11, e_74_12, e_74_13, e_74_14, e_74_17, e_74_20, e_74_23, e_74_24, e_74_27, e_74_30, e_74_31, ↓reduceIte, Int32.reduceAdd, Int32.reduceSub, an_0, an_1, an_2, an_3, an_4, an_5, tc_0, tc_1, tc_2, tc_3, tc_4, tc_5, tc_6, tc_7, tc_8, tc_9, tc_10, tc_11, tc_12, tc_13, tc_14, tc_15, tc_16, tc_17, tc_18, tc_19, tc_20, tc_21, tc_22, tc_23, tc_24, tc_25, tc_26, tc_27, tc_28, tc_29, tc_30, tc_31, tc_32, lcl_none, lcl_int, lcl_ref, lcl_null, lcl_long, okR_nil, okR_int, okR_ref, okR_null, okR_long, pushR_some, pushR_none, va_rf_some, va_rf_none, true_and, and_true, true_implies, false_implies, not_true_eq_false, not_false_eq_true, implies_true, bI_eq0, bI_eq1, bI_01, Classical.not_not, or_em, false_and, and_false, hS1.1, hS3.1, hS3.2.2.1, kT_0, kT_1, kT_2, kT_15, kT_16, kT_17, kT_18, kT_19, kT_80, kT_81, kT_82, kT_89, kT_90, kT_91, kT_92, kT_93, kT_94, kT_95, kT_96, kT_97, kT_98, kT_99, kT_100, kT_101, nT_2, nT_16, nT_17, nT_19, nT_81, nT_82, nT_90, nT_91, nT_94, nT_95, nT_97, nT_98, nT_100, nT_101, rT_0_0, rT_0_3, rT_0_4, rT_0_5, rT_0_6, rT_0_7, rT_0_8, rT_0_9, rT_0_10, rT_1_0, rT_15_0, rT_15_1, rT_18_0, rT_80_0, rT_80_1, rT_89_0, rT_89_1, rT_93_6, rT_93_7, rT_96_0, rT_96_1, rT_99_0, rT_99_1, rT_0_0, mK_wI, mR_wI, c_place (d := 6) (by decide) hS1, c_empty (d := 6) (by decide) hS2]
  have hf : ∀ a, a ≠ 0 → a ≠ 1 → (a < dl b ∨ dl b + 5 < a) → mI (wI (wI (tx M1 p' 0 (-1)) 0 11 (-1)) 1 1 0) a = mI M a := fun a h0 h1 h2 => by
    rw [mI_wI_ne h1, mI_wI_ne h0, tx_o h1, hF1 a h2]
    exact FC_cl a h2
  have h011 : mI (wI (wI (tx M1 p' 0 (-1)) 0 11 (-1)) 1 1 0) 0 11 = -1 := by simp [mI_wI]
  have h11 : mI (wI (wI (tx M1 p' 0 (-1)) 0 11 (-1)) 1 1 0) 1 1 = 0 := by simp [mI_wI]
  have hD : ∀ i, mI (wI (wI (tx M1 p' 0 (-1)) 0 11 (-1)) 1 1 0) (dl b + i) = mI M1 (dl b + i) := fun i => by rw [mI_wI_ne (by omega), mI_wI_ne (by omega), tx_o (by omega)]
  generalize wI (wI (tx M1 p' 0 (-1)) 0 11 (-1)) 1 1 0 = M2 at hf h011 h11 hD hS4 ⊢
  have hS5 : Sh (!b) (wR (wR M2 0 1 (some (dl b))) 0 2 (some (chL b))) := ⟨hS4.1, hS4.2.1, by show u2 (u2 (mR M2) 0 1 _) 0 2 _ = _; rw [hS4.2.2.1]; exact rT_sw, hS4.2.2.2⟩
  have hD5 : ∀ i, mI (wR (wR M2 0 1 (some (dl b))) 0 2 (some (chL b))) (dl b + i) = mI M1 (dl b + i) := hD
  have hf5 : ∀ a, a ≠ 0 → a ≠ 1 → (a < dl b ∨ dl b + 5 < a) → mI (wR (wR M2 0 1 (some (dl b))) 0 2 (some (chL b))) a = mI M a := hf
  have g011 : mI (wR (wR M2 0 1 (some (dl b))) 0 2 (some (chL b))) 0 11 = -1 := h011
  have g11 : mI (wR (wR M2 0 1 (some (dl b))) 0 2 (some (chL b))) 1 1 = 0 := h11
  simp +decide only [e_74_39, e_74_40, e_74_43, e_74_44, e_74_45, e_74_46, e_74_49, e_74_52, e_74_53, e_74_54, ↓reduceIte, Int32.reduceAdd, Int32.reduceSub, an_0, an_1, an_2, an_3, an_4, an_5, tc_0, tc_1, tc_2, tc_3, tc_4, tc_5, tc_6, tc_7, tc_8, tc_9, tc_10, tc_11, tc_12, tc_13, tc_14, tc_15, tc_16, tc_17, tc_18, tc_19, tc_20, tc_21, tc_22, tc_23, tc_24, tc_25, tc_26, tc_27, tc_28, tc_29, tc_30, tc_31, tc_32, lcl_none, lcl_int, lcl_ref, lcl_null, lcl_long, okR_nil, okR_int, okR_ref, okR_null, okR_long, pushR_some, pushR_none, va_rf_some, va_rf_none, true_and, and_true, true_implies, false_implies, not_true_eq_false, not_false_eq_true, implies_true, bI_eq0, bI_eq1, bI_01, Classical.not_not, or_em, false_and, and_false, hS4.1, hS4.2.2.1, kT_0, kT_1, kT_2, kT_15, kT_16, kT_17, kT_18, kT_19, kT_80, kT_81, kT_82, kT_89, kT_90, kT_91, kT_92, kT_93, kT_94, kT_95, kT_96, kT_97, kT_98, kT_99, kT_100, kT_101, nT_2, nT_16, nT_17, nT_19, nT_81, nT_82, nT_90, nT_91, nT_94, nT_95, nT_97, nT_98, nT_100, nT_101, rT_0_0, rT_0_3, rT_0_4, rT_0_5, rT_0_6, rT_0_7, rT_0_8, rT_0_9, rT_0_10, rT_1_0, rT_15_0, rT_15_1, rT_18_0, rT_80_0, rT_80_1, rT_89_0, rT_89_1, rT_93_6, rT_93_7, rT_96_0, rT_96_1, rT_99_0, rT_99_1, chS1, dS2, mK_wI, mR_wR, mK_wR]
  generalize wR (wR M2 0 1 (some (dl b))) 0 2 (some (chL b)) = M5 at hS5 hD5 hf5 g011 g11 ⊢
  have ed : dl b = chL (!b) := rfl
  have e5 : mI M5 (chL (!b)) 5 = nI n := by rw [← ed]; exact (congrFun (hD5 0) 5).trans hC1.2.1
  have e6 : mI M5 (chL (!b)) 6 = nI m := by rw [← ed]; exact (congrFun (hD5 0) 6).trans hC1.2.2.1
  simp +decide only [e_74_57, e_74_58, e_74_61, e_74_62, e_74_65, ↓reduceIte, Int32.reduceAdd, Int32.reduceSub, an_0, an_1, an_2, an_3, an_4, an_5, tc_0, tc_1, tc_2, tc_3, tc_4, tc_5, tc_6, tc_7, tc_8, tc_9, tc_10, tc_11, tc_12, tc_13, tc_14, tc_15, tc_16, tc_17, tc_18, tc_19, tc_20, tc_21, tc_22, tc_23, tc_24, tc_25, tc_26, tc_27, tc_28, tc_29, tc_30, tc_31, tc_32, lcl_none, lcl_int, lcl_ref, lcl_null, lcl_long, okR_nil, okR_int, okR_ref, okR_null, okR_long, pushR_some, pushR_none, va_rf_some, va_rf_none, true_and, and_true, true_implies, false_implies, not_true_eq_false, not_false_eq_true, implies_true, bI_eq0, bI_eq1, bI_01, Classical.not_not, or_em, false_and, and_false, hS5.1, hS5.2.1, hS5.2.2.1, hS5.2.2.2.1, kT_0, kT_1, kT_2, kT_15, kT_16, kT_17, kT_18, kT_19, kT_80, kT_81, kT_82, kT_89, kT_90, kT_91, kT_92, kT_93, kT_94, kT_95, kT_96, kT_97, kT_98, kT_99, kT_100, kT_101, nT_2, nT_16, nT_17, nT_19, nT_81, nT_82, nT_90, nT_91, nT_94, nT_95, nT_97, nT_98, nT_100, nT_101, rT_0_0, rT_0_3, rT_0_4, rT_0_5, rT_0_6, rT_0_7, rT_0_8, rT_0_9, rT_0_10, rT_1_0, rT_15_0, rT_15_1, rT_18_0, rT_80_0, rT_80_1, rT_89_0, rT_89_1, rT_93_6, rT_93_7, rT_96_0, rT_96_1, rT_99_0, rT_99_1, chS1, chK, chR7, chK7, chN7, chR8, chK8, chN8, chR9, chK9, chN9, chR10, chK10, chN10, chR11, chK11, chN11]
  refine EvD_mono (c_begin (d := 6) (by decide) hS5 hv.1 hv.2.1 e5 e6) ?_
  rintro r M6 ⟨rfl, hS6, hf6, w16, w17, q2, q3, q4, q5⟩
  have hfg : ∀ K, EvD 6 33 [.ref 18] M6 K = K none (wI M6 18 2 0) := fun K => by
    rw [b_33 (by decide)]
    simp +decide only [e_33_0, e_33_1, e_33_2, e_33_5, ↓reduceIte, Int32.reduceAdd, Int32.reduceSub, an_0, an_1, an_2, an_3, an_4, an_5, tc_0, tc_1, tc_2, tc_3, tc_4, tc_5, tc_6, tc_7, tc_8, tc_9, tc_10, tc_11, tc_12, tc_13, tc_14, tc_15, tc_16, tc_17, tc_18, tc_19, tc_20, tc_21, tc_22, tc_23, tc_24, tc_25, tc_26, tc_27, tc_28, tc_29, tc_30, tc_31, tc_32, lcl_none, lcl_int, lcl_ref, lcl_null, lcl_long, okR_nil, okR_int, okR_ref, okR_null, okR_long, pushR_some, pushR_none, va_rf_some, va_rf_none, true_and, and_true, true_implies, false_implies, not_true_eq_false, not_false_eq_true, implies_true, bI_eq0, bI_eq1, bI_01, Classical.not_not, or_em, false_and, and_false, hS6.1, kT_0, kT_1, kT_2, kT_15, kT_16, kT_17, kT_18, kT_19, kT_80, kT_81, kT_82, kT_89, kT_90, kT_91, kT_92, kT_93, kT_94, kT_95, kT_96, kT_97, kT_98, kT_99, kT_100, kT_101, nT_2, nT_16, nT_17, nT_19, nT_81, nT_82, nT_90, nT_91, nT_94, nT_95, nT_97, nT_98, nT_100, nT_101, rT_0_0, rT_0_3, rT_0_4, rT_0_5, rT_0_6, rT_0_7, rT_0_8, rT_0_9, rT_0_10, rT_1_0, rT_15_0, rT_15_1, rT_18_0, rT_80_0, rT_80_1, rT_89_0, rT_89_1, rT_93_6, rT_93_7, rT_96_0, rT_96_1, rT_99_0, rT_99_1]
  have hS7 : Sh (!b) (wI M6 18 2 0) := hS6
  have hfi : ∀ K, EvD 6 23 [.ref 80] (wI M6 18 2 0) K = K none (wI (wI M6 18 2 0) 80 2 0) := fun K => by
    rw [b_23 (by decide)]
    simp +decide only [e_23_0, e_23_1, e_23_2, e_23_5, ↓reduceIte, Int32.reduceAdd, Int32.reduceSub, an_0, an_1, an_2, an_3, an_4, an_5, tc_0, tc_1, tc_2, tc_3, tc_4, tc_5, tc_6, tc_7, tc_8, tc_9, tc_10, tc_11, tc_12, tc_13, tc_14, tc_15, tc_16, tc_17, tc_18, tc_19, tc_20, tc_21, tc_22, tc_23, tc_24, tc_25, tc_26, tc_27, tc_28, tc_29, tc_30, tc_31, tc_32, lcl_none, lcl_int, lcl_ref, lcl_null, lcl_long, okR_nil, okR_int, okR_ref, okR_null, okR_long, pushR_some, pushR_none, va_rf_some, va_rf_none, true_and, and_true, true_implies, false_implies, not_true_eq_false, not_false_eq_true, implies_true, bI_eq0, bI_eq1, bI_01, Classical.not_not, or_em, false_and, and_false, hS7.1, kT_0, kT_1, kT_2, kT_15, kT_16, kT_17, kT_18, kT_19, kT_80, kT_81, kT_82, kT_89, kT_90, kT_91, kT_92, kT_93, kT_94, kT_95, kT_96, kT_97, kT_98, kT_99, kT_100, kT_101, nT_2, nT_16, nT_17, nT_19, nT_81, nT_82, nT_90, nT_91, nT_94, nT_95, nT_97, nT_98, nT_100, nT_101, rT_0_0, rT_0_3, rT_0_4, rT_0_5, rT_0_6, rT_0_7, rT_0_8, rT_0_9, rT_0_10, rT_1_0, rT_15_0, rT_15_1, rT_18_0, rT_80_0, rT_80_1, rT_89_0, rT_89_1, rT_93_6, rT_93_7, rT_96_0, rT_96_1, rT_99_0, rT_99_1]
  have hS8 : Sh (!b) (wI (wI M6 18 2 0) 80 2 0) := hS6
  have hfb : ∀ K, EvD 6 4 [.ref 89] (wI (wI M6 18 2 0) 80 2 0) K = K (some (.int (mI (wI (wI M6 18 2 0) 80 2 0) 89 2))) (wI (wI (wI M6 18 2 0) 80 2 0) 89 2 0) := fun K => by
    rw [b_4 (by decide)]
    simp +decide only [e_4_0, e_4_1, e_4_4, e_4_5, e_4_6, e_4_7, e_4_10, e_4_11, ↓reduceIte, Int32.reduceAdd, Int32.reduceSub, an_0, an_1, an_2, an_3, an_4, an_5, tc_0, tc_1, tc_2, tc_3, tc_4, tc_5, tc_6, tc_7, tc_8, tc_9, tc_10, tc_11, tc_12, tc_13, tc_14, tc_15, tc_16, tc_17, tc_18, tc_19, tc_20, tc_21, tc_22, tc_23, tc_24, tc_25, tc_26, tc_27, tc_28, tc_29, tc_30, tc_31, tc_32, lcl_none, lcl_int, lcl_ref, lcl_null, lcl_long, okR_nil, okR_int, okR_ref, okR_null, okR_long, pushR_some, pushR_none, va_rf_some, va_rf_none, true_and, and_true, true_implies, false_implies, not_true_eq_false, not_false_eq_true, implies_true, bI_eq0, bI_eq1, bI_01, Classical.not_not, or_em, false_and, and_false, hS8.1, kT_0, kT_1, kT_2, kT_15, kT_16, kT_17, kT_18, kT_19, kT_80, kT_81, kT_82, kT_89, kT_90, kT_91, kT_92, kT_93, kT_94, kT_95, kT_96, kT_97, kT_98, kT_99, kT_100, kT_101, nT_2, nT_16, nT_17, nT_19, nT_81, nT_82, nT_90, nT_91, nT_94, nT_95, nT_97, nT_98, nT_100, nT_101, rT_0_0, rT_0_3, rT_0_4, rT_0_5, rT_0_6, rT_0_7, rT_0_8, rT_0_9, rT_0_10, rT_1_0, rT_15_0, rT_15_1, rT_18_0, rT_80_0, rT_80_1, rT_89_0, rT_89_1, rT_93_6, rT_93_7, rT_96_0, rT_96_1, rT_99_0, rT_99_1]
  have hS9 : Sh (!b) (wI (wI (wI M6 18 2 0) 80 2 0) 89 2 0) := hS6
  have hb' := chL_lt (!b)
  have e5' : mI (wI (wI (wI M6 18 2 0) 80 2 0) 89 2 0) (chL (!b)) 5 = nI n := by rw [mI_wI_ne (by omega), mI_wI_ne (by omega), mI_wI_ne (by omega), hf6 _ (by omega) (by omega) (by omega)]; exact e5
  simp +decide only [e_74_68, e_74_69, e_74_72, e_74_75, e_74_76, e_74_79, e_74_82, e_74_83, e_74_86, e_74_89, e_74_89r, e_74_90, e_74_91, e_74_94, e_74_97, ↓reduceIte, Int32.reduceAdd, Int32.reduceSub, an_0, an_1, an_2, an_3, an_4, an_5, tc_0, tc_1, tc_2, tc_3, tc_4, tc_5, tc_6, tc_7, tc_8, tc_9, tc_10, tc_11, tc_12, tc_13, tc_14, tc_15, tc_16, tc_17, tc_18, tc_19, tc_20, tc_21, tc_22, tc_23, tc_24, tc_25, tc_26, tc_27, tc_28, tc_29, tc_30, tc_31, tc_32, lcl_none, lcl_int, lcl_ref, lcl_null, lcl_long, okR_nil, okR_int, okR_ref, okR_null, okR_long, pushR_some, pushR_none, va_rf_some, va_rf_none, true_and, and_true, true_implies, false_implies, not_true_eq_false, not_false_eq_true, implies_true, bI_eq0, bI_eq1, bI_01, Classical.not_not, or_em, false_and, and_false, hS6.1, hS6.2.2.1, hS7.1, hS7.2.2.1, hS8.1, hS8.2.2.1, hS9.1, hS9.2.2.1, kT_0, kT_1, kT_2, kT_15, kT_16, kT_17, kT_18, kT_19, kT_80, kT_81, kT_82, kT_89, kT_90, kT_91, kT_92, kT_93, kT_94, kT_95, kT_96, kT_97, kT_98, kT_99, kT_100, kT_101, nT_2, nT_16, nT_17, nT_19, nT_81, nT_82, nT_90, nT_91, nT_94, nT_95, nT_97, nT_98, nT_100, nT_101, rT_0_0, rT_0_3, rT_0_4, rT_0_5, rT_0_6, rT_0_7, rT_0_8, rT_0_9, rT_0_10, rT_1_0, rT_15_0, rT_15_1, rT_18_0, rT_80_0, rT_80_1, rT_89_0, rT_89_1, rT_93_6, rT_93_7, rT_96_0, rT_96_1, rT_99_0, rT_99_1, chS1, chK, chR7, chK7, chN7, chR8, chK8, chN8, chR9, chK9, chN9, chR10, chK10, chN10, chR11, chK11, chN11, hfg, hfi, hfb, e5']
  have hfin : ∀ a, a ≠ 0 → a ≠ 1 → a ≠ 15 → a ≠ 16 → a ≠ 17 → a ≠ 18 → a ≠ 80 → a ≠ 89 → (a < dl b ∨ dl b + 5 < a) → mI (wI (wI (wI M6 18 2 0) 80 2 0) 89 2 0) a = mI M a := fun a h0 h1 h15 h16 h17 h18 h80 h89 h => by
    rw [mI_wI_ne h89, mI_wI_ne h80, mI_wI_ne h18, hf6 a h15 h16 h17, hf5 a h0 h1 h]
  have h6x : ∀ a, a ≠ 18 → a ≠ 80 → a ≠ 89 → mI (wI (wI (wI M6 18 2 0) 80 2 0) 89 2 0) a = mI M6 a := fun a h18 h80 h89 => by rw [mI_wI_ne h89, mI_wI_ne h80, mI_wI_ne h18]
  have h6D : ∀ i, i ≤ 5 → mI (wI (wI (wI M6 18 2 0) 80 2 0) 89 2 0) (chL (!b) + i) = mI M1 (dl b + i) := fun i hi => by
    rw [h6x _ (by omega) (by omega) (by omega), hf6 _ (by omega) (by omega) (by omega), ← ed]
    exact hD5 i
  have h18 : mI (wI (wI (wI M6 18 2 0) 80 2 0) 89 2 0) 18 2 = 0 := by simp [mI_wI]
  have h181 : mI (wI (wI (wI M6 18 2 0) 80 2 0) 89 2 0) 18 1 = mI M 18 1 := by
    rw [mI_wI, if_neg (by decide), mI_wI, if_neg (by decide), mI_wI, if_neg (by decide), hf6 18 (by decide) (by decide) (by decide), hf5 18 (by decide) (by decide) (by omega)]
  have h80 : mI (wI (wI (wI M6 18 2 0) 80 2 0) 89 2 0) 80 2 = 0 := by simp [mI_wI]
  have h89 : mI (wI (wI (wI M6 18 2 0) 80 2 0) 89 2 0) 89 2 = 0 := by simp [mI_wI]
  have h0' : mI (wI (wI (wI M6 18 2 0) 80 2 0) 89 2 0) 0 11 = -1 := by rw [h6x 0 (by decide) (by decide) (by decide), hf6 0 (by decide) (by decide) (by decide)]; exact g011
  have h1' : mI (wI (wI (wI M6 18 2 0) 80 2 0) 89 2 0) 1 1 = 0 := by rw [h6x 1 (by decide) (by decide) (by decide), hf6 1 (by decide) (by decide) (by decide)]; exact g11
  have w16' : ∀ k, k < 5 → mI (wI (wI (wI M6 18 2 0) 80 2 0) 89 2 0) 16 k = if k < m then D 4 k else 0 := fun k hk => by
    rw [h6x 16 (by decide) (by decide) (by decide), w16 k hk]
    by_cases h : k < m
    · rw [if_pos h, if_pos h, ← ed, hD5 4]; exact (hC1.2.2.2.2.2 k h).1
    · rw [if_neg h, if_neg h]
  have w17' : ∀ k, k < 5 → mI (wI (wI (wI M6 18 2 0) 80 2 0) 89 2 0) 17 k = if k < n then hoF D m k else -1 := fun k hk => by
    rw [h6x 17 (by decide) (by decide) (by decide), w17 k hk]
    by_cases h : k < n
    · rw [if_pos h, if_pos h, ← ed, hD5 3]; exact (hC1.2.2.2.2.1 k h).2.2
    · rw [if_neg h, if_neg h]
  have s15 : ∀ k, mI (wI (wI (wI M6 18 2 0) 80 2 0) 89 2 0) 15 k = mI M6 15 k := fun k => by rw [h6x 15 (by decide) (by decide) (by decide)]
  generalize wI (wI (wI M6 18 2 0) 80 2 0) 89 2 0 = M9 at hS9 hfin h6D h18 h181 h80 h89 h0' h1' w16' w17' s15 ⊢
  obtain ⟨c1, c2, c3, c4, c5, c6, o, ho, eo, -⟩ := hC
  have ecl : ∀ k, mI M9 (chL (!b)) k = mI M1 (dl b) k := fun k => congrFun (h6D 0 (by decide)) k
  refine ⟨hS9, fun a ha => hfin a (by omega) (by omega) (by omega) (by omega) (by omega) (by omega) (by omega) (by omega) (by omega), ⟨⟨?_, ?_, ?_⟩, ⟨h0', ?_, h1', h18, h89⟩, ?_, ?_, ?_, ?_⟩, ⟨fun k hk hkn => ⟨?_, ?_⟩, fun k hk hkn => ?_⟩, ⟨fun k hk => ?_, fun k hk => ?_, ?_, ?_, ?_, ?_⟩, c4.kp (hfin _ (by decide) (by decide) (by decide) (by decide) (by decide) (by decide) (by decide) (by decide) (by omega)) (tn_o (by decide) (by decide)), c5.kp (hfin _ (by decide) (by decide) (by decide) (by decide) (by decide) (by decide) (by decide) (by decide) (by omega)) (hfin _ (by decide) (by decide) (by decide) (by decide) (by decide) (by decide) (by decide) (by decide) (by omega)) (tn_o (by decide) (by decide)) (tn_o (by decide) (by decide)), fun i hi => ⟨?_, ?_, ?_⟩, o, ho, by rw [h181]; exact eo, fun i hi hin => ?_⟩
  · rw [ecl]; exact hC1.2.1
  · rw [ecl]; exact hC1.2.2.1
  · rw [ecl]; exact hC1.1
  · rw [hfin 92 (by decide) (by decide) (by decide) (by decide) (by decide) (by decide) (by decide) (by decide) (by omega)]
    exact c1.2.1.2.1
  · rw [ecl]; exact hC1.2.2.2.1 0 (by decide)
  · rw [ecl]; exact hC1.2.2.2.1 1 (by decide)
  · rw [ecl]; exact hC1.2.2.2.1 2 (by decide)
  · rw [ecl]; exact hC1.2.2.2.1 3 (by decide)
  · have hkn : nI k < nI n := hkn
    rw [nI_ltE (by omega) (by have := hv.1; omega)] at hkn
    rw [h6D 1 (by decide)]
    exact (hC1.2.2.2.2.1 k hkn).1
  · have hkn : nI k < nI n := hkn
    rw [nI_ltE (by omega) (by have := hv.1; omega)] at hkn
    rw [h6D 2 (by decide)]
    exact (hC1.2.2.2.2.1 k hkn).2.1
  · have hkn : nI k < nI m := hkn
    rw [nI_ltE (by omega) (by have := hv.2.1; omega)] at hkn
    rw [h6D 5 (by decide)]
    exact (hC1.2.2.2.2.2 k hkn).2
  · have eb : beS D n m k = if k < m then D 4 k else 0 := by
      unfold beS
      rw [if_pos hk]
    rw [w16' k hk]
    exact eb.symm
  · have eb : beS D n m (5 + k) = if k < n then hoF D m k else -1 := by
      unfold beS
      rw [if_neg (by omega), if_pos (by omega), show 5 + k - 5 = k by omega]
    rw [w17' k hk]
    exact eb.symm
  · rw [s15]; exact q2
  · rw [s15]; exact q3
  · rw [s15]; exact q4
  · rw [s15]; exact q5
  · rw [hfin 82 (by decide) (by decide) (by decide) (by decide) (by decide) (by decide) (by decide) (by decide) (by omega), tn_o (by decide) (by decide)]
    exact (c6 i hi).1
  · refine (c6 i hi).2.1.kp (fun a g1 g2 => hfin a (by omega) (by omega) (by omega) (by omega) (by omega) (by omega) (by omega) (by omega) (by omega)) (fun k _ => by rw [tn_o (by omega) (by omega)])
  · rw [h80]
    have hz : ∀ i, i < 2 → hasB 0 (nI i) = false := by decide
    rw [hz i hi]
    rfl
  · have hin : nI i < 0 := hin
    exact absurd hin (nI_pos (by omega))
