/-! undo -/
theorem GT {x m : Nat} {as : List Int32} {M : ab_M} {b : Bool} {σ σ1 : Sg} {L P : Nat} (hS : Sh b M) (hMo : RM M σ) (hI1 : IV L P σ1) (v : Int32) (h1 : EvD 20 x (.ref 0 :: as.map .int) M (fun r M1 => r = some (.int v) ∧ Sh b M1 ∧ frC M M1 ∧ RC b M1 σ1)) (h2 : ∀ M1, Sh b M1 → RM M1 σ → EvD 20 m (.ref 102 :: as.map .int) M1 (fun r M2 => r = some (.int v) ∧ Sh b M2 ∧ frM M1 M2 ∧ RM M2 σ1)) : lwStep Rel x m as M := by
  refine EvD_mono h1 (fun r M1 hr => ?_)
  obtain ⟨rfl, hS1, hf, hC1⟩ := hr
  refine ⟨v, b, rfl, hS1, EvD_mono (h2 M1 hS1 (hMo.kp hf)) (fun r M2 hr => ?_)⟩
  obtain ⟨rfl, hS2, hf2, hM2⟩ := hr
  exact ⟨rfl, b, σ1, L, P, hS2, hC1.kp hf2, hM2, hI1⟩
def un (σ : Sg) (m : Nat) : Sg := fun j k => if j = 5 then σ (20 + m) k else if j = 0 ∧ k = 6 then nI m else σ j k
theorem un_ne {σ : Sg} {m j : Nat} (h0 : j ≠ 0) (h5 : j ≠ 5) : un σ m j = σ j := by
  funext k
  unfold un
  rw [if_neg h5, if_neg (fun e => h0 e.1)]
theorem un_0 {σ : Sg} {m k : Nat} (h : k ≠ 6) : un σ m 0 k = σ 0 k := by
  unfold un
  rw [if_neg (by decide), if_neg (fun e => h e.2)]
theorem un_06 {σ : Sg} {m : Nat} : un σ m 0 6 = nI m := by
  unfold un
  rw [if_neg (by decide), if_pos ⟨rfl, rfl⟩]
theorem un_5 {σ : Sg} {m : Nat} : un σ m 5 = σ (20 + m) := by
  funext k
  unfold un
  rw [if_pos rfl]
theorem IV_un {L P m : Nat} {σ : Sg} (h : IV L P σ) (hn : σ 0 6 = nI (m + 1)) (hm : m < 20) : IV L P (un σ m) := by
  obtain ⟨⟨a1, a2, a3, a4, a5, a6⟩, b5, b6, b7, t, q, x, nw, p, im⟩ := h
  refine ⟨⟨a1, a2, by rw [un_0 (by decide)]; exact a3, by rw [un_0 (by decide)]; exact a4, by rw [un_0 (by decide)]; exact a5, by rw [un_0 (by decide)]; exact a6⟩, by rw [un_0 (by decide)]; exact b5, ⟨m, by omega, un_06⟩, by rw [un_0 (by decide), un_ne (j := 7) (by decide) (by decide)]; exact b7, by rw [un_ne (j := 1) (by decide) (by decide)]; exact t, by rw [un_ne (j := 2) (by decide) (by decide), un_ne (j := 3) (by decide) (by decide)]; exact q, by rw [un_ne (j := 4) (by decide) (by decide)]; exact x, ?_, fun i hi hin => ?_, fun i hi => ?_⟩
  · rw [un_5]
    exact p m hm (by rw [hn, nI_ltE (by omega) (by omega)]; omega)
  · rw [un_06, nI_ltE (by omega) (by omega)] at hin
    rw [un_ne (by omega) (by omega)]
    exact p i hi (by rw [hn, nI_ltE (by omega) (by omega)]; omega)
  · rw [un_ne (j := 12) (by decide) (by decide), un_ne (j := 9) (by decide) (by decide), un_ne (j := 10 + i) (by omega) (by omega)]
    exact im i hi
theorem C_undo {d m : Nat} {b : Bool} {σ : Sg} {M : ab_M} (hd : 4 ≤ d) (hS : Sh b M) (hC : RC b M σ) (hn : σ 0 6 = nI (m + 1)) (hm : m < 20) : EvD d 85 [.ref 0] M (fun r M' => r = some (.int (nI m)) ∧ Sh b M' ∧ frC M M' ∧ RC b M' (un σ m)) := by
  obtain ⟨c1, c2, c3, c4, c5, c6, o, ho, eo, cp⟩ := hC
  have hcn : mI M 18 2 = nI (m + 1) := c1.2.1.2.2.2.1.trans hn
  have hb := chL_lt b
  have n0 : (nI (m + 1) = 0) = False := by rw [show (0 : Int32) = nI 0 from rfl, nI_eqE (by omega) (by decide)]; exact eq_false (by omega)
  have n1 : (nI (m + 1) ≤ 0) = False := by rw [show (0 : Int32) = nI 0 from rfl, nI_leE (by omega) (by decide)]; exact eq_false (by omega)
  have n2 : nI (m + 1) - 1 = nI m := nI_pred m
  generalize hM1 : wI M 18 2 (nI m) = M1
  have hS1 : Sh b M1 := by rw [← hM1]; exact hS
  have h182 : mI M1 18 2 = nI m := by rw [← hM1, mI_wI, if_pos ⟨rfl, rfl⟩]
  have h181 : mI M1 18 1 = nI o := by rw [← hM1, mI_wI, if_neg (by decide)]; exact eo
  have hf1 : ∀ a, a ≠ 18 → mI M1 a = mI M a := fun a g => by rw [← hM1, mI_wI_ne g]
  have hp : (o + m) % 20 < 20 := Nat.mod_lt _ (by decide)
  generalize hpe : (o + m) % 20 = p at hp
  have hcp : ∀ K, EvD 2 39 [.ref 15, .ref (20 + 3 * p)] M1 K = K none (cpSt M1 15 (20 + 3 * p)) := fun K => c_copyFrom (d := 2) (by decide) (by omega) (Stt_Sh hS1 (Or.inl rfl)) (Stt_Sh hS1 (Or.inr (Or.inr (Or.inr ⟨p, hp, rfl⟩))))
  have hat : ∀ K, EvD 2 34 [.ref 18, .int (nI m)] M1 K = K (some (.ref (20 + 3 * p))) M1 := fun K => by rw [← hpe]; exact c_at (d := 2) (Nat.le_refl 2) hS1 h181 ho hm
  have hS2 : Sh b (cpSt M1 15 (20 + 3 * p)) := cpSt_Sh hS1
  have h2 : mI (cpSt M1 15 (20 + 3 * p)) 18 = mI M1 18 := cpSt_fr (by omega)
  have hfin : ∀ a, a < 15 ∨ 18 < a → mI (cpSt M1 15 (20 + 3 * p)) a = mI M a := fun a g => by rw [cpSt_fr (by omega), hf1 a (by omega)]
  have hq : RC b (cpSt M1 15 (20 + 3 * p)) (un σ m) := by
    refine ⟨?_, c2.kp (fun a g1 g2 => hfin a (by omega)) (un_0 (by decide)) (un_0 (by decide)) (un_ne (by decide) (by decide)) (un_ne (by decide) (by decide)) (un_ne (by decide) (by decide)), ?_, c4.kp (hfin _ (by decide)) (un_ne (by decide) (by decide)), c5.kp (hfin _ (by decide)) (hfin _ (by decide)) (un_ne (by decide) (by decide)) (un_ne (by decide) (by decide)), c6.kp (fun a g1 g2 => hfin a (by omega)) (un_ne (by decide) (by decide)) (un_ne (by decide) (by decide)) (un_ne (by decide) (by decide)) (un_ne (by decide) (by decide)), o, ho, by rw [h2]; exact h181, fun i hi hin => ?_⟩
    · have h0 := c1
      unfold RC0 at h0 ⊢
      rw [hfin (chL b) (by omega), hfin 0 (by decide), hfin 92 (by decide), hfin 1 (by decide), hfin 89 (by decide), h2, h182, un_06, un_0 (by decide), un_0 (by decide), un_0 (by decide), un_0 (by decide), un_0 (by decide), un_0 (by decide), un_0 (by decide), un_ne (by decide) (by decide)]
      exact ⟨h0.1, ⟨h0.2.1.1, h0.2.1.2.1, h0.2.1.2.2.1, rfl, h0.2.1.2.2.2.2⟩, h0.2.2⟩
    · rw [un_5]
      refine cpSt_SN (by omega) ?_
      have h := cp m hm (by rw [hn, nI_ltE (by omega) (by omega)]; omega)
      rw [hpe] at h
      exact h.kp (fun a g1 g2 => hf1 a (by omega)) (fun _ _ => rfl)
    · rw [un_06, nI_ltE (by omega) (by omega)] at hin
      rw [un_ne (by omega) (by omega)]
      exact (cp i hi (by rw [hn, nI_ltE (by omega) (by omega)]; omega)).kp (fun a g1 g2 => hfin a (by omega)) (fun _ _ => rfl)
  rw [b_85 hd]
  have hsz : ∀ K, EvD 3 32 [.ref 18] M K = K (some (.int (nI (m + 1)))) M := fun K => by
    rw [b_32 (by decide)]
    simp +decide only [e_32_0, e_32_1, e_32_4, ↓reduceIte, Int32.reduceAdd, Int32.reduceSub, an_0, an_1, an_2, an_3, an_4, an_5, tc_0, tc_1, tc_2, tc_3, tc_4, tc_5, tc_6, tc_7, tc_8, tc_9, tc_10, tc_11, tc_12, tc_13, tc_14, tc_15, tc_16, tc_17, tc_18, tc_19, tc_20, tc_21, tc_22, tc_23, tc_24, tc_25, tc_26, tc_27, tc_28, tc_29, tc_30, tc_31, tc_32, lcl_none, lcl_int, lcl_ref, lcl_null, lcl_long, okR_nil, okR_int, okR_ref, okR_null, okR_long, pushR_some, pushR_none, va_rf_some, va_rf_none, true_and, and_true, true_implies, false_implies, not_true_eq_false, not_false_eq_true, implies_true, bI_eq0, bI_eq1, bI_01, Classical.not_not, or_em, false_and, and_false, hS.1, hS.2.1, hS.2.2.1, hS.2.2.2.1, kT_0, kT_1, kT_2, kT_15, kT_16, kT_17, kT_18, kT_19, kT_80, kT_81, kT_82, kT_89, kT_90, kT_91, kT_92, kT_93, kT_94, kT_95, kT_96, kT_97, kT_98, kT_99, kT_100, kT_101, nT_2, nT_16, nT_17, nT_19, nT_81, nT_82, nT_90, nT_91, nT_94, nT_95, nT_97, nT_98, nT_100, nT_101, rT_0_0, rT_0_3, rT_0_4, rT_0_5, rT_0_6, rT_0_7, rT_0_8, rT_0_9, rT_0_10, rT_1_0, rT_15_0, rT_15_1, rT_18_0, rT_80_0, rT_80_1, rT_89_0, rT_89_1, rT_93_6, rT_93_7, rT_96_0, rT_96_1, rT_99_0, rT_99_1, hcn]
  have hsz2 : ∀ K, EvD 3 32 [.ref 18] (cpSt M1 15 (20 + 3 * p)) K = K (some (.int (nI m))) (cpSt M1 15 (20 + 3 * p)) := fun K => by
    rw [b_32 (by decide)]
    simp +decide only [e_32_0, e_32_1, e_32_4, ↓reduceIte, Int32.reduceAdd, Int32.reduceSub, an_0, an_1, an_2, an_3, an_4, an_5, tc_0, tc_1, tc_2, tc_3, tc_4, tc_5, tc_6, tc_7, tc_8, tc_9, tc_10, tc_11, tc_12, tc_13, tc_14, tc_15, tc_16, tc_17, tc_18, tc_19, tc_20, tc_21, tc_22, tc_23, tc_24, tc_25, tc_26, tc_27, tc_28, tc_29, tc_30, tc_31, tc_32, lcl_none, lcl_int, lcl_ref, lcl_null, lcl_long, okR_nil, okR_int, okR_ref, okR_null, okR_long, pushR_some, pushR_none, va_rf_some, va_rf_none, true_and, and_true, true_implies, false_implies, not_true_eq_false, not_false_eq_true, implies_true, bI_eq0, bI_eq1, bI_01, Classical.not_not, or_em, false_and, and_false, hS2.1, kT_0, kT_1, kT_2, kT_15, kT_16, kT_17, kT_18, kT_19, kT_80, kT_81, kT_82, kT_89, kT_90, kT_91, kT_92, kT_93, kT_94, kT_95, kT_96, kT_97, kT_98, kT_99, kT_100, kT_101, nT_2, nT_16, nT_17, nT_19, nT_81, nT_82, nT_90, nT_91, nT_94, nT_95, nT_97, nT_98, nT_100, nT_101, rT_0_0, rT_0_3, rT_0_4, rT_0_5, rT_0_6, rT_0_7, rT_0_8, rT_0_9, rT_0_10, rT_1_0, rT_15_0, rT_15_1, rT_18_0, rT_80_0, rT_80_1, rT_89_0, rT_89_1, rT_93_6, rT_93_7, rT_96_0, rT_96_1, rT_99_0, rT_99_1, h2, h182]
  have htk : ∀ K, EvD 3 36 [.ref 18, .ref 15] M K = K none (cpSt M1 15 (20 + 3 * p)) := fun K => by
    rw [b_36 (by decide)]
    simp +decide only [e_36_0, e_36_1, e_36_4, e_36_7, e_36_8, e_36_8r, e_36_9, e_36_12, e_36_13, e_36_14, ↓reduceIte, Int32.reduceAdd, Int32.reduceSub, an_0, an_1, an_2, an_3, an_4, an_5, tc_0, tc_1, tc_2, tc_3, tc_4, tc_5, tc_6, tc_7, tc_8, tc_9, tc_10, tc_11, tc_12, tc_13, tc_14, tc_15, tc_16, tc_17, tc_18, tc_19, tc_20, tc_21, tc_22, tc_23, tc_24, tc_25, tc_26, tc_27, tc_28, tc_29, tc_30, tc_31, tc_32, lcl_none, lcl_int, lcl_ref, lcl_null, lcl_long, okR_nil, okR_int, okR_ref, okR_null, okR_long, pushR_some, pushR_none, va_rf_some, va_rf_none, true_and, and_true, true_implies, false_implies, not_true_eq_false, not_false_eq_true, implies_true, bI_eq0, bI_eq1, bI_01, Classical.not_not, or_em, false_and, and_false, hS.1, hS.2.1, hS.2.2.1, hS.2.2.2.1, kT_0, kT_1, kT_2, kT_15, kT_16, kT_17, kT_18, kT_19, kT_80, kT_81, kT_82, kT_89, kT_90, kT_91, kT_92, kT_93, kT_94, kT_95, kT_96, kT_97, kT_98, kT_99, kT_100, kT_101, nT_2, nT_16, nT_17, nT_19, nT_81, nT_82, nT_90, nT_91, nT_94, nT_95, nT_97, nT_98, nT_100, nT_101, rT_0_0, rT_0_3, rT_0_4, rT_0_5, rT_0_6, rT_0_7, rT_0_8, rT_0_9, rT_0_10, rT_1_0, rT_15_0, rT_15_1, rT_18_0, rT_80_0, rT_80_1, rT_89_0, rT_89_1, rT_93_6, rT_93_7, rT_96_0, rT_96_1, rT_99_0, rT_99_1, hcn, n1, n2, hM1]
    simp +decide only [e_36_17, e_36_18, e_36_19, e_36_20, e_36_23, e_36_26, e_36_29, ↓reduceIte, Int32.reduceAdd, Int32.reduceSub, an_0, an_1, an_2, an_3, an_4, an_5, tc_0, tc_1, tc_2, tc_3, tc_4, tc_5, tc_6, tc_7, tc_8, tc_9, tc_10, tc_11, tc_12, tc_13, tc_14, tc_15, tc_16, tc_17, tc_18, tc_19, tc_20, tc_21, tc_22, tc_23, tc_24, tc_25, tc_26, tc_27, tc_28, tc_29, tc_30, tc_31, tc_32, lcl_none, lcl_int, lcl_ref, lcl_null, lcl_long, okR_nil, okR_int, okR_ref, okR_null, okR_long, pushR_some, pushR_none, va_rf_some, va_rf_none, true_and, and_true, true_implies, false_implies, not_true_eq_false, not_false_eq_true, implies_true, bI_eq0, bI_eq1, bI_01, Classical.not_not, or_em, false_and, and_false, hS1.1, hS1.2.1, hS1.2.2.1, kT_0, kT_1, kT_2, kT_15, kT_16, kT_17, kT_18, kT_19, kT_80, kT_81, kT_82, kT_89, kT_90, kT_91, kT_92, kT_93, kT_94, kT_95, kT_96, kT_97, kT_98, kT_99, kT_100, kT_101, nT_2, nT_16, nT_17, nT_19, nT_81, nT_82, nT_90, nT_91, nT_94, nT_95, nT_97, nT_98, nT_100, nT_101, rT_0_0, rT_0_3, rT_0_4, rT_0_5, rT_0_6, rT_0_7, rT_0_8, rT_0_9, rT_0_10, rT_1_0, rT_15_0, rT_15_1, rT_18_0, rT_80_0, rT_80_1, rT_89_0, rT_89_1, rT_93_6, rT_93_7, rT_96_0, rT_96_1, rT_99_0, rT_99_1, h182, hat, hcp]
  simp +decide only [e_85_0, e_85_1, e_85_4, e_85_7, e_85_10, e_85_12, e_85_13, e_85_14, e_85_17, e_85_18, e_85_21, ↓reduceIte, Int32.reduceAdd, Int32.reduceSub, an_0, an_1, an_2, an_3, an_4, an_5, tc_0, tc_1, tc_2, tc_3, tc_4, tc_5, tc_6, tc_7, tc_8, tc_9, tc_10, tc_11, tc_12, tc_13, tc_14, tc_15, tc_16, tc_17, tc_18, tc_19, tc_20, tc_21, tc_22, tc_23, tc_24, tc_25, tc_26, tc_27, tc_28, tc_29, tc_30, tc_31, tc_32, lcl_none, lcl_int, lcl_ref, lcl_null, lcl_long, okR_nil, okR_int, okR_ref, okR_null, okR_long, pushR_some, pushR_none, va_rf_some, va_rf_none, true_and, and_true, true_implies, false_implies, not_true_eq_false, not_false_eq_true, implies_true, bI_eq0, bI_eq1, bI_01, Classical.not_not, or_em, false_and, and_false, hS.1, hS.2.1, hS.2.2.1, hS.2.2.2.1, kT_0, kT_1, kT_2, kT_15, kT_16, kT_17, kT_18, kT_19, kT_80, kT_81, kT_82, kT_89, kT_90, kT_91, kT_92, kT_93, kT_94, kT_95, kT_96, kT_97, kT_98, kT_99, kT_100, kT_101, nT_2, nT_16, nT_17, nT_19, nT_81, nT_82, nT_90, nT_91, nT_94, nT_95, nT_97, nT_98, nT_100, nT_101, rT_0_0, rT_0_3, rT_0_4, rT_0_5, rT_0_6, rT_0_7, rT_0_8, rT_0_9, rT_0_10, rT_1_0, rT_15_0, rT_15_1, rT_18_0, rT_80_0, rT_80_1, rT_89_0, rT_89_1, rT_93_6, rT_93_7, rT_96_0, rT_96_1, rT_99_0, rT_99_1, hsz, n0, htk]
  simp +decide only [e_85_24, e_85_25, e_85_28, e_85_31, ↓reduceIte, Int32.reduceAdd, Int32.reduceSub, an_0, an_1, an_2, an_3, an_4, an_5, tc_0, tc_1, tc_2, tc_3, tc_4, tc_5, tc_6, tc_7, tc_8, tc_9, tc_10, tc_11, tc_12, tc_13, tc_14, tc_15, tc_16, tc_17, tc_18, tc_19, tc_20, tc_21, tc_22, tc_23, tc_24, tc_25, tc_26, tc_27, tc_28, tc_29, tc_30, tc_31, tc_32, lcl_none, lcl_int, lcl_ref, lcl_null, lcl_long, okR_nil, okR_int, okR_ref, okR_null, okR_long, pushR_some, pushR_none, va_rf_some, va_rf_none, true_and, and_true, true_implies, false_implies, not_true_eq_false, not_false_eq_true, implies_true, bI_eq0, bI_eq1, bI_01, Classical.not_not, or_em, false_and, and_false, hS2.1, hS2.2.1, hS2.2.2.1, kT_0, kT_1, kT_2, kT_15, kT_16, kT_17, kT_18, kT_19, kT_80, kT_81, kT_82, kT_89, kT_90, kT_91, kT_92, kT_93, kT_94, kT_95, kT_96, kT_97, kT_98, kT_99, kT_100, kT_101, nT_2, nT_16, nT_17, nT_19, nT_81, nT_82, nT_90, nT_91, nT_94, nT_95, nT_97, nT_98, nT_100, nT_101, rT_0_0, rT_0_3, rT_0_4, rT_0_5, rT_0_6, rT_0_7, rT_0_8, rT_0_9, rT_0_10, rT_1_0, rT_15_0, rT_15_1, rT_18_0, rT_80_0, rT_80_1, rT_89_0, rT_89_1, rT_93_6, rT_93_7, rT_96_0, rT_96_1, rT_99_0, rT_99_1, hsz2]
  exact ⟨hS2, fun a ha => hfin a (by omega), hq⟩
theorem M_undo {d m : Nat} {b : Bool} {σ : Sg} {M : ab_M} (hd : 2 ≤ d) (hS : Sh b M) (hM : RM M σ) (hn : σ 0 6 = nI (m + 1)) (hm : m < 20) : EvD d 155 [.ref 102] M (fun r M' => r = some (.int (nI m)) ∧ Sh b M' ∧ frM M M' ∧ RM M' (un σ m)) := by
  obtain ⟨m1, m2, m3, m4, m5, m6, m7⟩ := hM
  have hcn : mI M 102 24 = nI (m + 1) := m1.2.1.2.2.2.1.trans hn
  have n0 : (nI (m + 1) = 0) = False := by rw [show (0 : Int32) = nI 0 from rfl, nI_eqE (by omega) (by decide)]; exact eq_false (by omega)
  have n2 : nI (m + 1) - 1 = nI m := nI_pred m
  have e14 : 14 * nI m = nI (14 * m) := pk_mul 14 m
  generalize hM1 : wI M 102 24 (nI m) = M1
  have hS1 : Sh b M1 := by rw [← hM1]; exact hS
  have h24 : mI M1 102 24 = nI m := by rw [← hM1, mI_wI, if_pos ⟨rfl, rfl⟩]
  rw [b_155 hd]
  simp +decide only [e_155_0, e_155_1, e_155_4, e_155_7, e_155_9, e_155_10, e_155_11, e_155_11r, e_155_12, e_155_15, e_155_16, e_155_17, ↓reduceIte, Int32.reduceAdd, Int32.reduceSub, an_0, an_1, an_2, an_3, an_4, an_5, tc_0, tc_1, tc_2, tc_3, tc_4, tc_5, tc_6, tc_7, tc_8, tc_9, tc_10, tc_11, tc_12, tc_13, tc_14, tc_15, tc_16, tc_17, tc_18, tc_19, tc_20, tc_21, tc_22, tc_23, tc_24, tc_25, tc_26, tc_27, tc_28, tc_29, tc_30, tc_31, tc_32, lcl_none, lcl_int, lcl_ref, lcl_null, lcl_long, okR_nil, okR_int, okR_ref, okR_null, okR_long, pushR_some, pushR_none, va_rf_some, va_rf_none, true_and, and_true, true_implies, false_implies, not_true_eq_false, not_false_eq_true, implies_true, bI_eq0, bI_eq1, bI_01, Classical.not_not, or_em, false_and, and_false, hS.1, hS.2.1, hS.2.2.1, hS.2.2.2.1, kT_102, kT_103, kT_104, kT_105, kT_106, kT_107, kT_108, kT_109, kT_110, kT_111, kT_112, kT_113, kT_114, kT_115, kT_116, kT_117, kT_118, kT_119, kT_120, nT_103, nT_104, nT_105, nT_106, nT_107, nT_108, nT_109, nT_110, nT_111, nT_112, nT_113, nT_114, nT_115, nT_116, nT_117, nT_118, nT_119, nT_120, rT_102_1, rT_102_12, rT_102_13, rT_102_14, rT_102_18, rT_102_19, rT_102_20, rT_102_21, rT_102_22, rT_102_23, rT_102_25, rT_102_26, rT_102_27, rT_102_30, rT_102_31, rT_102_32, rT_102_33, rT_102_34, hcn, n0, n2, hM1]
  simp +decide only [e_155_20, e_155_21, e_155_24, e_155_26, e_155_27, e_155_30, e_155_31, e_155_32, e_155_35, e_155_36, ↓reduceIte, Int32.reduceAdd, Int32.reduceSub, an_0, an_1, an_2, an_3, an_4, an_5, tc_0, tc_1, tc_2, tc_3, tc_4, tc_5, tc_6, tc_7, tc_8, tc_9, tc_10, tc_11, tc_12, tc_13, tc_14, tc_15, tc_16, tc_17, tc_18, tc_19, tc_20, tc_21, tc_22, tc_23, tc_24, tc_25, tc_26, tc_27, tc_28, tc_29, tc_30, tc_31, tc_32, lcl_none, lcl_int, lcl_ref, lcl_null, lcl_long, okR_nil, okR_int, okR_ref, okR_null, okR_long, pushR_some, pushR_none, va_rf_some, va_rf_none, true_and, and_true, true_implies, false_implies, not_true_eq_false, not_false_eq_true, implies_true, bI_eq0, bI_eq1, bI_01, Classical.not_not, or_em, false_and, and_false, hS1.1, hS1.2.1, hS1.2.2.1, kT_102, kT_103, kT_104, kT_105, kT_106, kT_107, kT_108, kT_109, kT_110, kT_111, kT_112, kT_113, kT_114, kT_115, kT_116, kT_117, kT_118, kT_119, kT_120, nT_103, nT_104, nT_105, nT_106, nT_107, nT_108, nT_109, nT_110, nT_111, nT_112, nT_113, nT_114, nT_115, nT_116, nT_117, nT_118, nT_119, nT_120, rT_102_1, rT_102_12, rT_102_13, rT_102_14, rT_102_18, rT_102_19, rT_102_20, rT_102_21, rT_102_22, rT_102_23, rT_102_25, rT_102_26, rT_102_27, rT_102_30, rT_102_31, rT_102_32, rT_102_33, rT_102_34, h24, e14]
  refine c_copyM (x := 112) (f := 14 * m) (y := 111) (t := 0) (nx := 280) (ny := 14) (Nat.le_refl 1) (by decide) (by rw [hS1.1]; rfl) (by rw [hS1.1]; rfl) (by rw [hS1.2.1]; rfl) (by rw [hS1.2.1]; rfl) (by omega) (by decide) (by decide) (by decide) (fun M2 hc => ?_)
  have hS2 := hc.sh hS1
  obtain ⟨g1, g2, -⟩ := hc
  have h2 : mI M2 102 24 = nI m := by rw [g2 102 (by decide)]; exact h24
  simp +decide only [e_155_39, e_155_40, e_155_43, ↓reduceIte, Int32.reduceAdd, Int32.reduceSub, an_0, an_1, an_2, an_3, an_4, an_5, tc_0, tc_1, tc_2, tc_3, tc_4, tc_5, tc_6, tc_7, tc_8, tc_9, tc_10, tc_11, tc_12, tc_13, tc_14, tc_15, tc_16, tc_17, tc_18, tc_19, tc_20, tc_21, tc_22, tc_23, tc_24, tc_25, tc_26, tc_27, tc_28, tc_29, tc_30, tc_31, tc_32, lcl_none, lcl_int, lcl_ref, lcl_null, lcl_long, okR_nil, okR_int, okR_ref, okR_null, okR_long, pushR_some, pushR_none, va_rf_some, va_rf_none, true_and, and_true, true_implies, false_implies, not_true_eq_false, not_false_eq_true, implies_true, bI_eq0, bI_eq1, bI_01, Classical.not_not, or_em, false_and, and_false, hS2.1, kT_102, h2]
  have hm2 : ∀ a, a ≠ 102 → a ≠ 111 → mI M2 a = mI M a := fun a h1 h2 => by rw [g2 a h2, ← hM1, mI_wI_ne h1]
  have h02 : ∀ k, k ≠ 24 → mI M2 102 k = mI M 102 k := fun k hk => by rw [g2 102 (by decide), ← hM1, mI_wI, if_neg (fun z => hk z.2)]
  refine ⟨hS2, fun a ha => hm2 a (by omega) (by omega), ?_, m2.kp (fun a h1 h2 => hm2 a (by omega) (by omega)) (un_0 (by decide)) (un_0 (by decide)) (un_ne (by decide) (by decide)) (un_ne (by decide) (by decide)) (un_ne (by decide) (by decide)), ?_, m4.kp (hm2 _ (by decide) (by decide)) (un_ne (by decide) (by decide)), m5.kp (hm2 _ (by decide) (by decide)) (un_ne (by decide) (by decide)) (un_ne (by decide) (by decide)), m6.kp (fun a h1 h2 => hm2 a (by omega) (by omega)) (un_ne (by decide) (by decide)) (un_ne (by decide) (by decide)) (un_ne (by decide) (by decide)) (un_ne (by decide) (by decide)), ?_⟩
  · have h0 := m1
    unfold RM0 at h0 ⊢
    rw [h02 16 (by decide), h02 17 (by decide), h02 15 (by decide), h02 7 (by decide), h02 28 (by decide), h02 0 (by decide), h02 29 (by decide), hm2 107 (by decide) (by decide), h2, un_06, un_0 (by decide), un_0 (by decide), un_0 (by decide), un_0 (by decide), un_0 (by decide), un_0 (by decide), un_0 (by decide), un_ne (by decide) (by decide)]
    exact ⟨h0.1, ⟨h0.2.1.1, h0.2.1.2.1, h0.2.1.2.2.1, rfl, h0.2.1.2.2.2.2⟩, h0.2.2⟩
  · intro k hk
    rw [un_5, g1, if_pos (by omega), ← m7 m hm (by rw [hn, nI_ltE (by omega) (by omega)]; omega) k hk, ← hM1, mI_wI_ne (by decide), show k - 0 = k by omega]
  · intro i hi hin k hk
    rw [un_06, nI_ltE (by omega) (by omega)] at hin
    rw [un_ne (by omega) (by omega), hm2 112 (by decide) (by decide)]
    exact m7 i hi (by rw [hn, nI_ltE (by omega) (by omega)]; omega) k hk
theorem op_undo (M : ab_M) (hM : Rel M) : lwStep Rel 85 155 [] M := by
  obtain ⟨b, σ, L, P, hS, hC, hMo, hI⟩ := hM
  obtain ⟨n, hn2, hn⟩ := hI.2.2.1
  cases n with
  | zero =>
    have h18 : mI M 18 2 = 0 := hC.1.2.1.2.2.2.1.trans hn
    refine RO hS hC hMo hI (-2000000003) ?_ (fun M1 hS1 hM1 => ?_)
    · show EvD 20 85 [.ref 0] M _
      rw [b_85 (by decide)]
      have hsz : ∀ K, EvD 3 32 [.ref 18] M K = K (some (.int 0)) M := fun K => by
        rw [b_32 (by decide)]
        simp +decide only [e_32_0, e_32_1, e_32_4, ↓reduceIte, Int32.reduceAdd, Int32.reduceSub, an_0, an_1, an_2, an_3, an_4, an_5, tc_0, tc_1, tc_2, tc_3, tc_4, tc_5, tc_6, tc_7, tc_8, tc_9, tc_10, tc_11, tc_12, tc_13, tc_14, tc_15, tc_16, tc_17, tc_18, tc_19, tc_20, tc_21, tc_22, tc_23, tc_24, tc_25, tc_26, tc_27, tc_28, tc_29, tc_30, tc_31, tc_32, lcl_none, lcl_int, lcl_ref, lcl_null, lcl_long, okR_nil, okR_int, okR_ref, okR_null, okR_long, pushR_some, pushR_none, va_rf_some, va_rf_none, true_and, and_true, true_implies, false_implies, not_true_eq_false, not_false_eq_true, implies_true, bI_eq0, bI_eq1, bI_01, Classical.not_not, or_em, false_and, and_false, hS.1, hS.2.1, hS.2.2.1, hS.2.2.2.1, kT_0, kT_1, kT_2, kT_15, kT_16, kT_17, kT_18, kT_19, kT_80, kT_81, kT_82, kT_89, kT_90, kT_91, kT_92, kT_93, kT_94, kT_95, kT_96, kT_97, kT_98, kT_99, kT_100, kT_101, nT_2, nT_16, nT_17, nT_19, nT_81, nT_82, nT_90, nT_91, nT_94, nT_95, nT_97, nT_98, nT_100, nT_101, rT_0_0, rT_0_3, rT_0_4, rT_0_5, rT_0_6, rT_0_7, rT_0_8, rT_0_9, rT_0_10, rT_1_0, rT_15_0, rT_15_1, rT_18_0, rT_80_0, rT_80_1, rT_89_0, rT_89_1, rT_93_6, rT_93_7, rT_96_0, rT_96_1, rT_99_0, rT_99_1, h18]
      simp +decide only [e_85_0, e_85_1, e_85_4, e_85_7, e_85_10, e_85_12, e_85_13, e_85_14, e_85_17, e_85_18, e_85_21, e_85_24, e_85_25, e_85_28, e_85_31, ↓reduceIte, Int32.reduceAdd, Int32.reduceSub, an_0, an_1, an_2, an_3, an_4, an_5, tc_0, tc_1, tc_2, tc_3, tc_4, tc_5, tc_6, tc_7, tc_8, tc_9, tc_10, tc_11, tc_12, tc_13, tc_14, tc_15, tc_16, tc_17, tc_18, tc_19, tc_20, tc_21, tc_22, tc_23, tc_24, tc_25, tc_26, tc_27, tc_28, tc_29, tc_30, tc_31, tc_32, lcl_none, lcl_int, lcl_ref, lcl_null, lcl_long, okR_nil, okR_int, okR_ref, okR_null, okR_long, pushR_some, pushR_none, va_rf_some, va_rf_none, true_and, and_true, true_implies, false_implies, not_true_eq_false, not_false_eq_true, implies_true, bI_eq0, bI_eq1, bI_01, Classical.not_not, or_em, false_and, and_false, hS.1, hS.2.1, hS.2.2.1, hS.2.2.2.1, kT_0, kT_1, kT_2, kT_15, kT_16, kT_17, kT_18, kT_19, kT_80, kT_81, kT_82, kT_89, kT_90, kT_91, kT_92, kT_93, kT_94, kT_95, kT_96, kT_97, kT_98, kT_99, kT_100, kT_101, nT_2, nT_16, nT_17, nT_19, nT_81, nT_82, nT_90, nT_91, nT_94, nT_95, nT_97, nT_98, nT_100, nT_101, rT_0_0, rT_0_3, rT_0_4, rT_0_5, rT_0_6, rT_0_7, rT_0_8, rT_0_9, rT_0_10, rT_1_0, rT_15_0, rT_15_1, rT_18_0, rT_80_0, rT_80_1, rT_89_0, rT_89_1, rT_93_6, rT_93_7, rT_96_0, rT_96_1, rT_99_0, rT_99_1, hsz]
      exact hS
    · show EvD 20 155 [.ref 102] M1 _
      have h24 : mI M1 102 24 = 0 := hM1.1.2.1.2.2.2.1.trans hn
      rw [b_155 (by decide)]
      simp +decide only [e_155_0, e_155_1, e_155_4, e_155_7, e_155_9, e_155_10, e_155_11, e_155_11r, e_155_12, e_155_15, e_155_16, e_155_17, e_155_20, e_155_21, e_155_24, e_155_26, e_155_27, e_155_30, e_155_31, e_155_32, e_155_35, e_155_36, e_155_39, e_155_40, e_155_43, ↓reduceIte, Int32.reduceAdd, Int32.reduceSub, an_0, an_1, an_2, an_3, an_4, an_5, tc_0, tc_1, tc_2, tc_3, tc_4, tc_5, tc_6, tc_7, tc_8, tc_9, tc_10, tc_11, tc_12, tc_13, tc_14, tc_15, tc_16, tc_17, tc_18, tc_19, tc_20, tc_21, tc_22, tc_23, tc_24, tc_25, tc_26, tc_27, tc_28, tc_29, tc_30, tc_31, tc_32, lcl_none, lcl_int, lcl_ref, lcl_null, lcl_long, okR_nil, okR_int, okR_ref, okR_null, okR_long, pushR_some, pushR_none, va_rf_some, va_rf_none, true_and, and_true, true_implies, false_implies, not_true_eq_false, not_false_eq_true, implies_true, bI_eq0, bI_eq1, bI_01, Classical.not_not, or_em, false_and, and_false, hS1.1, hS1.2.1, hS1.2.2.1, kT_102, kT_103, kT_104, kT_105, kT_106, kT_107, kT_108, kT_109, kT_110, kT_111, kT_112, kT_113, kT_114, kT_115, kT_116, kT_117, kT_118, kT_119, kT_120, nT_103, nT_104, nT_105, nT_106, nT_107, nT_108, nT_109, nT_110, nT_111, nT_112, nT_113, nT_114, nT_115, nT_116, nT_117, nT_118, nT_119, nT_120, rT_102_1, rT_102_12, rT_102_13, rT_102_14, rT_102_18, rT_102_19, rT_102_20, rT_102_21, rT_102_22, rT_102_23, rT_102_25, rT_102_26, rT_102_27, rT_102_30, rT_102_31, rT_102_32, rT_102_33, rT_102_34, h24]
      exact hS1
  | succ m => exact GT hS hMo (IV_un hI hn (by omega)) (nI m) (C_undo (by decide) hS hC hn (by omega)) (fun M1 hS1 hM1 => M_undo (by decide) hS1 hM1 hn (by omega))
