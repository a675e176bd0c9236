/-! tontine, both sides -/
theorem hoF_ge {D : Nat → Nat → Int32} {n l : Nat} (hn : n ≤ 5) (hl : n ≤ l) (hl2 : l < 5) : ∀ m, m < 2 ^ 31 → (∀ j, j < m → ∃ i, i < n ∧ D 6 j = nI i) → hoF D m l = -1 := fun m hm h => (hoF_m1 m hm).mpr (fun j hj z => by
  obtain ⟨i, hi, e⟩ := h j hj
  rw [e] at z
  have := (nI_eq (by omega) (by omega)).mp z
  omega)
theorem nw_be {D : Nat → Nat → Int32} {hp : Bool} {n m k : Nat} (hv : DV hp n m D) (hk : k ≠ 10) : nwS D m k = beS D n m k := by
  unfold nwS beS
  by_cases h5 : k < 5
  · rw [if_pos h5, if_pos h5]
  · rw [if_neg h5, if_neg h5]
    by_cases h10 : k < 10
    · rw [if_pos h10, if_pos h10]
      by_cases hn : k - 5 < n
      · rw [if_pos hn]
      · rw [if_neg hn]
        exact hoF_ge hv.1 (by omega) (by omega) m (by have := hv.2.1; omega) (fun j hj => (hv.2.2.2.2.2 j hj).2)
    · rw [if_neg h10, if_neg h10, if_neg hk]
theorem M_tonS {N n m : Nat} {b hp : Bool} {σ : Sg} {D : Nat → Nat → Int32} {M : ab_M} (hS : Sh b M) (hM : RM M σ) (hN : σ 0 5 = nI N) (hN2 : N ≤ 220) (hv : DV hp n m D) (hc : PmS (tT σ) N (skP (tT σ) N 0) false 0 0 D0 hp n m D) : EvD 20 134 [.ref 102] M (fun r M1 => r = some (.int (nI n)) ∧ Sh b M1 ∧ frM M M1 ∧ RM M1 (tnS σ hp n m D)) := by
  have hT := TM_of hS hM hN hN2
  have hk : mK M 102 = 11 := by rw [hS.1]; rfl
  have hn := hv.1
  have hm := hv.2.1
  rw [b_134 (by decide)]
  simp +decide only [e_134_0, e_134_1, ↓reduceIte, Int32.reduceAdd, Int32.reduceSub, an_0, an_1, an_2, an_3, an_4, an_5, tc_0, tc_1, tc_2, tc_3, tc_4, tc_5, tc_6, tc_7, tc_8, tc_9, tc_10, tc_11, tc_12, tc_13, tc_14, tc_15, tc_16, tc_17, tc_18, tc_19, tc_20, tc_21, tc_22, tc_23, tc_24, tc_25, tc_26, tc_27, tc_28, tc_29, tc_30, tc_31, tc_32, lcl_none, lcl_int, lcl_ref, lcl_null, lcl_long, okR_nil, okR_int, okR_ref, okR_null, okR_long, pushR_some, pushR_none, va_rf_some, va_rf_none, true_and, and_true, true_implies, false_implies, not_true_eq_false, not_false_eq_true, implies_true, bI_eq0, bI_eq1, bI_01, Classical.not_not, or_em, false_and, and_false, hk]
  refine M_read hT (fun nu g => hc b (rdM M) nu g _ (TM_rd hT) MD_rd (fun M1 hS1 hF1 hD1 => ?_))
  have hF2 := FR_t FR_rd hF1
  obtain ⟨d9, d10, d11, d4, d5, d6⟩ := hD1
  have g9 : mI (wI (wI M1 102 0 0) 102 7 (-1)) 102 9 = b01 hp := by rw [mI_wI, if_neg (by decide), mI_wI, if_neg (by decide)]; exact d9
  have g10 : mI (wI (wI (wI M1 102 0 0) 102 7 (-1)) 102 15 (b01 hp)) 102 10 = nI n := by rw [mI_wI, if_neg (by decide), mI_wI, if_neg (by decide), mI_wI, if_neg (by decide)]; exact d10
  have g11 : mI (wI (wI (wI (wI M1 102 0 0) 102 7 (-1)) 102 15 (b01 hp)) 102 16 (nI n)) 102 11 = nI m := by rw [mI_wI, if_neg (by decide), mI_wI, if_neg (by decide), mI_wI, if_neg (by decide), mI_wI, if_neg (by decide)]; exact d11
  have hk1 : mK M1 102 = 11 := by rw [hS1.1]; rfl
  have hb01 : (b01 hp = 0 ∨ b01 hp = 1) = True := by cases hp <;> decide
  simp +decide only [e_134_4, e_134_5, e_134_6, e_134_7, e_134_10, e_134_11, e_134_14, e_134_16, e_134_17, e_134_20, e_134_21, e_134_22, e_134_23, e_134_24, e_134_27, e_134_28, e_134_29, e_134_32, e_134_35, e_134_36, e_134_37, e_134_40, e_134_43, e_134_44, e_134_45, e_134_48, e_134_51, e_134_52, ↓reduceIte, Int32.reduceAdd, Int32.reduceSub, an_0, an_1, an_2, an_3, an_4, an_5, tc_0, tc_1, tc_2, tc_3, tc_4, tc_5, tc_6, tc_7, tc_8, tc_9, tc_10, tc_11, tc_12, tc_13, tc_14, tc_15, tc_16, tc_17, tc_18, tc_19, tc_20, tc_21, tc_22, tc_23, tc_24, tc_25, tc_26, tc_27, tc_28, tc_29, tc_30, tc_31, tc_32, lcl_none, lcl_int, lcl_ref, lcl_null, lcl_long, okR_nil, okR_int, okR_ref, okR_null, okR_long, pushR_some, pushR_none, va_rf_some, va_rf_none, true_and, and_true, true_implies, false_implies, not_true_eq_false, not_false_eq_true, implies_true, bI_eq0, bI_eq1, bI_01, Classical.not_not, or_em, false_and, and_false, hk1, mK_wI, g9, g10, g11, hb01]
  have hS2 : Sh b (wI (wI (wI (wI (wI M1 102 0 0) 102 7 (-1)) 102 15 (b01 hp)) 102 16 (nI n)) 102 17 (nI m)) := hS1
  have k0 : mI (wI (wI (wI (wI (wI M1 102 0 0) 102 7 (-1)) 102 15 (b01 hp)) 102 16 (nI n)) 102 17 (nI m)) 102 0 = 0 := by simp [mI_wI]
  have k7 : mI (wI (wI (wI (wI (wI M1 102 0 0) 102 7 (-1)) 102 15 (b01 hp)) 102 16 (nI n)) 102 17 (nI m)) 102 7 = -1 := by simp [mI_wI]
  have k15 : mI (wI (wI (wI (wI (wI M1 102 0 0) 102 7 (-1)) 102 15 (b01 hp)) 102 16 (nI n)) 102 17 (nI m)) 102 15 = b01 hp := by simp [mI_wI]
  have k16 : mI (wI (wI (wI (wI (wI M1 102 0 0) 102 7 (-1)) 102 15 (b01 hp)) 102 16 (nI n)) 102 17 (nI m)) 102 16 = nI n := by simp [mI_wI]
  have k17 : mI (wI (wI (wI (wI (wI M1 102 0 0) 102 7 (-1)) 102 15 (b01 hp)) 102 16 (nI n)) 102 17 (nI m)) 102 17 = nI m := by simp [mI_wI]
  have k28 : mI (wI (wI (wI (wI (wI M1 102 0 0) 102 7 (-1)) 102 15 (b01 hp)) 102 16 (nI n)) 102 17 (nI m)) 102 28 = σ 0 4 := by
    rw [mI_wI, if_neg (by decide), mI_wI, if_neg (by decide), mI_wI, if_neg (by decide), mI_wI, if_neg (by decide), mI_wI, if_neg (by decide), hF2.2 28 (by decide)]
    exact hM.1.2.1.2.1
  have ko : ∀ a, a ≠ 102 → mI (wI (wI (wI (wI (wI M1 102 0 0) 102 7 (-1)) 102 15 (b01 hp)) 102 16 (nI n)) 102 17 (nI m)) a = mI M1 a := fun a ha => by rw [mI_wI_ne ha, mI_wI_ne ha, mI_wI_ne ha, mI_wI_ne ha, mI_wI_ne ha]
  generalize wI (wI (wI (wI (wI M1 102 0 0) 102 7 (-1)) 102 15 (b01 hp)) 102 16 (nI n)) 102 17 (nI m) = M2 at hS2 k0 k7 k15 k16 k17 k28 ko ⊢
  refine EvD_mono (c_forgetM (d := 6) (by decide) hS2) ?_
  rintro r M3 ⟨rfl, hS3, hf3, hw3⟩
  simp +decide only [e_134_55, e_134_56, ↓reduceIte, Int32.reduceAdd, Int32.reduceSub, an_0, an_1, an_2, an_3, an_4, an_5, tc_0, tc_1, tc_2, tc_3, tc_4, tc_5, tc_6, tc_7, tc_8, tc_9, tc_10, tc_11, tc_12, tc_13, tc_14, tc_15, tc_16, tc_17, tc_18, tc_19, tc_20, tc_21, tc_22, tc_23, tc_24, tc_25, tc_26, tc_27, tc_28, tc_29, tc_30, tc_31, tc_32, lcl_none, lcl_int, lcl_ref, lcl_null, lcl_long, okR_nil, okR_int, okR_ref, okR_null, okR_long, pushR_some, pushR_none, va_rf_some, va_rf_none, true_and, and_true, true_implies, false_implies, not_true_eq_false, not_false_eq_true, implies_true, bI_eq0, bI_eq1, bI_01, Classical.not_not, or_em, false_and, and_false]
  refine L_m1 (hp := hp) (D := D) (x := some (.int 1)) (M0 := M3) (by rw [hf3 102 (by decide)]; exact k15) (fun h i hi => by rw [hf3 104 (by decide), ko 104 (by decide)]; exact d4 h i hi) (fun h => (hv.2.2.1 h).2.2) (fun M4 hS4 hf4 hw4 => ?_) (lcl_int _) 4 0 M3 (by omega) hS3 (fun _ _ => rfl) (fun k hk => absurd hk (Nat.not_lt_zero k))
  simp +decide only [e_134_91, e_134_92, ↓reduceIte, Int32.reduceAdd, Int32.reduceSub, an_0, an_1, an_2, an_3, an_4, an_5, tc_0, tc_1, tc_2, tc_3, tc_4, tc_5, tc_6, tc_7, tc_8, tc_9, tc_10, tc_11, tc_12, tc_13, tc_14, tc_15, tc_16, tc_17, tc_18, tc_19, tc_20, tc_21, tc_22, tc_23, tc_24, tc_25, tc_26, tc_27, tc_28, tc_29, tc_30, tc_31, tc_32, lcl_none, lcl_int, lcl_ref, lcl_null, lcl_long, okR_nil, okR_int, okR_ref, okR_null, okR_long, pushR_some, pushR_none, va_rf_some, va_rf_none, true_and, and_true, true_implies, false_implies, not_true_eq_false, not_false_eq_true, implies_true, bI_eq0, bI_eq1, bI_01, Classical.not_not, or_em, false_and, and_false]
  refine L_m2 (n := n) (D := D) (x := some (.int 1)) (M0 := M4) hn (by rw [hf4 102 (by decide), hf3 102 (by decide)]; exact k16) (fun k hk => by rw [hf4 105 (by decide), hf3 105 (by decide), ko 105 (by decide)]; exact d5 k hk) (fun M5 hS5 hf5 hw5 => ?_) (lcl_int _) n 0 M4 (by omega) hS4 (fun _ _ _ => rfl) (fun k hk => absurd hk (Nat.not_lt_zero k))
  simp +decide only [e_134_137, e_134_138, ↓reduceIte, Int32.reduceAdd, Int32.reduceSub, an_0, an_1, an_2, an_3, an_4, an_5, tc_0, tc_1, tc_2, tc_3, tc_4, tc_5, tc_6, tc_7, tc_8, tc_9, tc_10, tc_11, tc_12, tc_13, tc_14, tc_15, tc_16, tc_17, tc_18, tc_19, tc_20, tc_21, tc_22, tc_23, tc_24, tc_25, tc_26, tc_27, tc_28, tc_29, tc_30, tc_31, tc_32, lcl_none, lcl_int, lcl_ref, lcl_null, lcl_long, okR_nil, okR_int, okR_ref, okR_null, okR_long, pushR_some, pushR_none, va_rf_some, va_rf_none, true_and, and_true, true_implies, false_implies, not_true_eq_false, not_false_eq_true, implies_true, bI_eq0, bI_eq1, bI_01, Classical.not_not, or_em, false_and, and_false]
  refine L_m3 (n := n) (m := m) (D := D) (x := some (.int 1)) (M0 := M5) hn hm (by rw [hf5 102 (by decide) (by decide), hf4 102 (by decide), hf3 102 (by decide)]; exact k17) (fun j hj => ⟨by rw [hf5 106 (by decide) (by decide), hf4 106 (by decide), hf3 106 (by decide), ko 106 (by decide)]; exact d6 j hj, (hv.2.2.2.2.2 j hj).2⟩) (fun M6 hS6 hf6 hw6 hw6' => ?_) (lcl_int _) m 0 M5 (by omega) hS5 (fun _ _ _ => rfl) (fun k hk => absurd hk (Nat.not_lt_zero k)) (fun k hk => by
    rw [hf5 111 (by decide) (by decide), hf4 111 (by decide), hw3 k hk]
    unfold fgN nwS
    by_cases h5 : k < 5
    · rw [if_pos h5, if_pos h5, if_neg (Nat.not_lt_zero k)]
    · rw [if_neg h5, if_neg h5]
      rfl)
  have e102 : ∀ j, mI M6 102 j = mI M2 102 j := fun j => by rw [hf6 102 (by decide) (by decide), hf5 102 (by decide) (by decide), hf4 102 (by decide), hf3 102 (by decide)]
  have e16 : mI M6 102 16 = nI n := (e102 16).trans k16
  have eL : (1 : Int32) <<< (nI n &&& 31) = nI (2 ^ n) := by
    have : ∀ L, L ≤ 5 → (1 : Int32) <<< (nI L &&& 31) = nI (2 ^ L) := by decide +kernel
    exact this n hn
  have eM : nI (2 ^ n) - 1 = nI (2 ^ n - 1) := pk_sub (b := 1) (Nat.pow_pos (by decide))
  have e16' : mI (wI (wI (wI (wI (wI M6 111 10 (nI (2 ^ n - 1))) 102 29 0) 115 0 0) 115 1 0) 102 24 0) 102 16 = nI n := by
    rw [mI_wI, if_neg (by decide), mI_wI_ne (by decide), mI_wI_ne (by decide), mI_wI, if_neg (by decide), mI_wI_ne (by decide)]
    exact e16
  simp +decide only [e_134_201, e_134_202, e_134_205, e_134_207, e_134_208, e_134_209, e_134_212, e_134_213, e_134_214, e_134_215, e_134_216, e_134_217, e_134_218, e_134_221, e_134_222, e_134_225, e_134_226, e_134_227, e_134_228, e_134_229, e_134_232, e_134_233, e_134_234, e_134_235, e_134_236, e_134_237, e_134_240, e_134_241, e_134_244, ↓reduceIte, Int32.reduceAdd, Int32.reduceSub, an_0, an_1, an_2, an_3, an_4, an_5, tc_0, tc_1, tc_2, tc_3, tc_4, tc_5, tc_6, tc_7, tc_8, tc_9, tc_10, tc_11, tc_12, tc_13, tc_14, tc_15, tc_16, tc_17, tc_18, tc_19, tc_20, tc_21, tc_22, tc_23, tc_24, tc_25, tc_26, tc_27, tc_28, tc_29, tc_30, tc_31, tc_32, lcl_none, lcl_int, lcl_ref, lcl_null, lcl_long, okR_nil, okR_int, okR_ref, okR_null, okR_long, pushR_some, pushR_none, va_rf_some, va_rf_none, true_and, and_true, true_implies, false_implies, not_true_eq_false, not_false_eq_true, implies_true, bI_eq0, bI_eq1, bI_01, Classical.not_not, or_em, false_and, and_false, hS6.1, hS6.2.1, hS6.2.2.1, kT_102, kT_103, kT_104, kT_105, kT_106, kT_107, kT_108, kT_109, kT_110, kT_111, kT_112, kT_113, kT_114, kT_115, kT_116, kT_117, kT_118, kT_119, kT_120, nT_103, nT_104, nT_105, nT_106, nT_107, nT_108, nT_109, nT_110, nT_111, nT_112, nT_113, nT_114, nT_115, nT_116, nT_117, nT_118, nT_119, nT_120, rT_102_1, rT_102_12, rT_102_13, rT_102_14, rT_102_18, rT_102_19, rT_102_20, rT_102_21, rT_102_22, rT_102_23, rT_102_25, rT_102_26, rT_102_27, rT_102_30, rT_102_31, rT_102_32, rT_102_33, rT_102_34, mK_wI, mN_wI, mR_wI, e16, eL, eM, e16']
  have f102 : ∀ j, j ≠ 24 → j ≠ 29 → mI (wI (wI (wI (wI (wI M6 111 10 (nI (2 ^ n - 1))) 102 29 0) 115 0 0) 115 1 0) 102 24 0) 102 j = mI M2 102 j := fun j h1 h2 => by
    rw [mI_wI, if_neg (fun z => h1 z.2), mI_wI_ne (by decide), mI_wI_ne (by decide), mI_wI, if_neg (fun z => h2 z.2), mI_wI_ne (by decide)]
    exact e102 j
  have f24 : mI (wI (wI (wI (wI (wI M6 111 10 (nI (2 ^ n - 1))) 102 29 0) 115 0 0) 115 1 0) 102 24 0) 102 24 = 0 := by simp [mI_wI]
  have f29 : mI (wI (wI (wI (wI (wI M6 111 10 (nI (2 ^ n - 1))) 102 29 0) 115 0 0) 115 1 0) 102 24 0) 102 29 = 0 := by simp [mI_wI]
  have f111 : ∀ k, k < 14 → mI (wI (wI (wI (wI (wI M6 111 10 (nI (2 ^ n - 1))) 102 29 0) 115 0 0) 115 1 0) 102 24 0) 111 k = beS D n m k := fun k hk => by
    rw [mI_wI_ne (by decide), mI_wI_ne (by decide), mI_wI_ne (by decide), mI_wI_ne (by decide), mI_wI]
    by_cases e : k = 10
    · rw [if_pos ⟨rfl, e⟩, e]
      rfl
    · rw [if_neg (fun z => e z.2), hw6' k hk]
      exact nw_be hv e
  have f115 : ∀ i, i < 2 → mI (wI (wI (wI (wI (wI M6 111 10 (nI (2 ^ n - 1))) 102 29 0) 115 0 0) 115 1 0) 102 24 0) 115 i = 0 := fun i hi => by
    rw [mI_wI_ne (by decide), mI_wI]
    by_cases e : i = 1
    · rw [if_pos ⟨rfl, e⟩]
    · rw [if_neg (fun z => e z.2), mI_wI, if_pos ⟨rfl, by omega⟩]
  have fo : ∀ a, a ≠ 102 → a ≠ 111 → a ≠ 115 → mI (wI (wI (wI (wI (wI M6 111 10 (nI (2 ^ n - 1))) 102 29 0) 115 0 0) 115 1 0) 102 24 0) a = mI M6 a := fun a h1 h2 h3 => by
    rw [mI_wI_ne h1, mI_wI_ne h3, mI_wI_ne h3, mI_wI_ne h1, mI_wI_ne h2]
  have fM : ∀ a, a ≠ 102 → a ≠ 104 → a ≠ 105 → a ≠ 106 → a ≠ 107 → a ≠ 108 → a ≠ 109 → a ≠ 110 → a ≠ 111 → a ≠ 115 → mI (wI (wI (wI (wI (wI M6 111 10 (nI (2 ^ n - 1))) 102 29 0) 115 0 0) 115 1 0) 102 24 0) a = mI M a := fun a h102 h104 h105 h106 h107 h108 h109 h110 h111 h115 => by
    rw [fo a h102 h111 h115, hf6 a h110 h111, hf5 a h108 h109, hf4 a h107, hf3 a h111, ko a h102]
    exact hF2.1 a h102 h104 h105 h106
  have w107 : ∀ k, k < 4 → mI (wI (wI (wI (wI (wI M6 111 10 (nI (2 ^ n - 1))) 102 29 0) 115 0 0) 115 1 0) 102 24 0) 107 k = D 1 k := fun k hk => by
    rw [fo 107 (by decide) (by decide) (by decide), hf6 107 (by decide) (by decide), hf5 107 (by decide) (by decide)]
    exact hw4 k hk
  have w108 : ∀ k, k < n → mI (wI (wI (wI (wI (wI M6 111 10 (nI (2 ^ n - 1))) 102 29 0) 115 0 0) 115 1 0) 102 24 0) 108 k = D 2 k ∧ mI (wI (wI (wI (wI (wI M6 111 10 (nI (2 ^ n - 1))) 102 29 0) 115 0 0) 115 1 0) 102 24 0) 109 k = D 3 k := fun k hk => by
    rw [fo 108 (by decide) (by decide) (by decide), hf6 108 (by decide) (by decide), fo 109 (by decide) (by decide) (by decide), hf6 109 (by decide) (by decide)]
    exact hw5 k hk
  have w110 : ∀ k, k < m → mI (wI (wI (wI (wI (wI M6 111 10 (nI (2 ^ n - 1))) 102 29 0) 115 0 0) 115 1 0) 102 24 0) 110 k = D 5 k := fun k hk => by
    rw [fo 110 (by decide) (by decide) (by decide)]
    exact hw6 k hk
  have hS7 : Sh b (wI (wI (wI (wI (wI M6 111 10 (nI (2 ^ n - 1))) 102 29 0) 115 0 0) 115 1 0) 102 24 0) := hS6
  generalize wI (wI (wI (wI (wI M6 111 10 (nI (2 ^ n - 1))) 102 29 0) 115 0 0) 115 1 0) 102 24 0 = M7 at f102 f24 f29 f111 f115 fM w107 w108 w110 hS7 ⊢
  obtain ⟨m1, m2, m3, m4, m5, m6, m7⟩ := hM
  refine ⟨hS7, fun a ha => fM a (by omega) (by omega) (by omega) (by omega) (by omega) (by omega) (by omega) (by omega) (by omega) (by omega), ⟨⟨?_, ?_, ?_⟩, ⟨?_, ?_, ?_, f24, f29⟩, w107 0 (by decide), w107 1 (by decide), w107 2 (by decide), w107 3 (by decide)⟩, ⟨fun k hk hkn => ?_, fun k hk hkn => ?_⟩, f111, m4.kp (fM _ (by decide) (by decide) (by decide) (by decide) (by decide) (by decide) (by decide) (by decide) (by decide) (by decide)) (tn_o (by decide) (by decide)), m5.kp (fM _ (by decide) (by decide) (by decide) (by decide) (by decide) (by decide) (by decide) (by decide) (by decide) (by decide)) (tn_o (by decide) (by decide)) (tn_o (by decide) (by decide)), fun i hi => ⟨?_, fun k hk => ?_, f115 i hi⟩, fun i hi hin => ?_⟩
  · rw [f102 16 (by decide) (by decide)]; exact k16
  · rw [f102 17 (by decide) (by decide)]; exact k17
  · rw [f102 15 (by decide) (by decide)]; exact k15
  · rw [f102 7 (by decide) (by decide)]; exact k7
  · rw [f102 28 (by decide) (by decide)]; exact k28
  · rw [f102 0 (by decide) (by decide)]; exact k0
  · have hkn : nI k < nI n := hkn
    rw [nI_ltE (by omega) (by omega)] at hkn
    exact w108 k hkn
  · have hkn : nI k < nI m := hkn
    rw [nI_ltE (by omega) (by omega)] at hkn
    exact w110 k hkn
  · rw [fM 114 (by decide) (by decide) (by decide) (by decide) (by decide) (by decide) (by decide) (by decide) (by decide) (by decide), tn_o (by decide) (by decide)]
    exact (m6 i hi).1
  · rw [fM 113 (by decide) (by decide) (by decide) (by decide) (by decide) (by decide) (by decide) (by decide) (by decide) (by decide), tn_o (by omega) (by omega)]
    exact (m6 i hi).2.1 k hk
  · have hin : nI i < 0 := hin
    exact absurd hin (nI_pos (by omega))
theorem hoF_r {D : Nat → Nat → Int32} {l : Nat} : ∀ m, hoF D m l = -1 ∨ ∃ j, j < m ∧ hoF D m l = nI j := by
  intro m
  induction m with
  | zero => exact Or.inl rfl
  | succ m ih =>
    unfold hoF
    by_cases h : D 6 m = nI l
    · rw [if_pos h]; exact Or.inr ⟨m, by omega, rfl⟩
    · rw [if_neg h]
      rcases ih with e | ⟨j, hj, e⟩
      · exact Or.inl e
      · exact Or.inr ⟨j, by omega, e⟩
theorem SI_be {D : Nat → Nat → Int32} {n m : Nat} : SI n m (beS D n m) := by
  refine ⟨fun k hk hp => ?_, fun k hk hp => ?_, fun k hk => ?_, 2 ^ n - 1, ?_, rfl⟩
  · unfold beS; rw [if_pos hk, if_neg (by omega)]
  · unfold beS; rw [if_neg (by omega), if_pos (by omega), if_neg (by omega)]
  · have e : beS D n m (5 + k) = if k < n then hoF D m k else -1 := by unfold beS; rw [if_neg (by omega), if_pos (by omega), show 5 + k - 5 = k by omega]
    rw [e]
    by_cases h : k < n
    · rw [if_pos h]; exact hoF_r m
    · rw [if_neg h]; exact Or.inl rfl
  · have : 0 < 2 ^ n := Nat.pow_pos (by decide)
    omega
theorem IV_tn {L P n m : Nat} {σ : Sg} {hp : Bool} {D : Nat → Nat → Int32} (hI : IV L P σ) (hv : DV hp n m D) : IV n m (tnS σ hp n m D) := by
  obtain ⟨v1, v2, v3, v4, v5, v6⟩ := hv
  refine ⟨⟨v1, v2, rfl, rfl, ?_, hI.1.2.2.2.2.2⟩, ⟨0, by decide, rfl⟩, ⟨0, by decide, rfl⟩, ⟨0, by decide, rfl, fun i hi => absurd hi (Nat.not_lt_zero i)⟩, v4, v5, fun k hk => (v6 k hk).1, SI_be, fun i hi hin => ?_, fun i hi => ⟨Or.inl rfl, fun h => ?_⟩⟩
  · cases hp
    · exact Or.inl rfl
    · exact Or.inr rfl
  · have hin : nI i < 0 := hin
    exact absurd hin (nI_pos (by omega))
  · have h : (0 : Int32) = 1 := h
    exact absurd h (by decide)
theorem op_tontine (M : ab_M) (hM : Rel M) : lwStep Rel 74 134 [] M := by
  obtain ⟨b, σ, L, P, hS, hC, hMo, hI⟩ := hM
  obtain ⟨N, hN2, hN⟩ := hI.2.1
  rcases parse (T := tT σ) (N := N) (fun i => nnI_nn _) N (skP (tT σ) N 0) false 0 0 D0 (by omega) (skP_le (Nat.zero_le N)).2 (skP_skP (Nat.zero_le N)) DV_0 with ⟨kd, v, hk, hc, hm⟩ | ⟨hp, n, m, D, hv, hc, hm⟩
  · have hI1 : IV L P (u2 (u2 σ 0 3 v) 0 5 0) := IV_sc hI (fun j hj _ _ _ => by rw [u2_ne hj, u2_ne hj]) (by rw [u2_nk (by decide), u2_nk (by decide)]) (by rw [u2_nk (by decide), u2_nk (by decide)]) (by rw [u2_nk (by decide), u2_nk (by decide)]) (by rw [u2_nk (by decide), u2_nk (by decide)]) (by rw [u2_nk (by decide), u2_nk (by decide)]; exact hI.1.2.2.2.2.2) ⟨0, by decide, by rw [u2_at]; rfl⟩ (by rw [u2_nk (by decide), u2_nk (by decide), u2_ne (by decide), u2_ne (by decide)]; exact hI.2.2.2.1)
    exact GT hS hMo hI1 (-10 - kd) (C_tonF (n := 0) (m := 0) (hp := false) (D := D0) hS hC hN hN2 hk hc) (fun M1 hS1 hM1 => M_tonF hS1 hM1 hN hN2 hm)
  · refine EvD_mono (C_tonS hS hC hN hN2 hv hc) (fun r M1 hr => ?_)
    obtain ⟨rfl, hS1, hf, hC1⟩ := hr
    refine ⟨nI n, !b, rfl, hS1, EvD_mono (M_tonS hS1 (hMo.kp hf) hN hN2 hv hm) (fun r M2 hr => ?_)⟩
    obtain ⟨rfl, hS2, hf2, hM2⟩ := hr
    exact ⟨rfl, !b, tnS σ hp n m D, n, m, hS2, hC1.kp hf2, hM2, IV_tn hI hv⟩
