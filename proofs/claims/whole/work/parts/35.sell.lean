/-! sell -/
def capI (x : Int32) : Int32 := if x < 999999 then x else 999999
theorem capI_le {x : Int32} (h : x ≤ 999999) : capI x = x := by
  unfold capI
  by_cases h2 : x < 999999
  · rw [if_pos h2]
  · rw [if_neg h2]
    exact Int32.le_antisymm (Int32.not_lt.mp h2) h
theorem capI_gt {x : Int32} (h : ¬ x ≤ 999999) : capI x = 999999 := by
  unfold capI
  rw [if_neg (fun h2 => h (Int32.le_of_lt h2))]
theorem c_receive {d i : Nat} {b : Bool} {p : Int32} {M : ab_M} {K : ab_Q} (hd : 1 ≤ d) (hS : Sh b M) (hi : i < 5) : EvD d 44 [.ref 15, .int (nI i), .int p] M K = K none (wI M 16 i (capI (mI M 16 i + p))) := by
  have h1 : (nI i < 0) = False := by rw [show (0 : Int32) = nI 0 from rfl, nI_ltE (by omega) (by omega)]; exact eq_false (by omega)
  have h2 : (5 ≤ nI i) = False := by rw [show (5 : Int32) = nI 5 from rfl, nI_leE (by omega) (by omega)]; exact eq_false (by omega)
  have cj : (nI i).toNatClampNeg = i := nI_clamp (by omega)
  have ij : inX (nI i) 5 = True := eq_true (inX_nI (by decide) (by omega))
  rw [b_44 hd]
  simp +decide only [e_44_0, e_44_1, e_44_4, e_44_5, e_44_6, e_44_9, e_44_10, e_44_13, e_44_14, e_44_16, e_44_17, e_44_20, e_44_21, e_44_22, e_44_23, e_44_24, e_44_27, e_44_28, ↓reduceIte, Int32.reduceAdd, Int32.reduceSub, an_0, an_1, an_2, an_3, an_4, an_5, tc_0, tc_1, tc_2, tc_3, tc_4, tc_5, tc_6, tc_7, tc_8, tc_9, tc_10, tc_11, tc_12, tc_13, tc_14, tc_15, tc_16, tc_17, tc_18, tc_19, tc_20, tc_21, tc_22, tc_23, tc_24, tc_25, tc_26, tc_27, tc_28, tc_29, tc_30, tc_31, tc_32, lcl_none, lcl_int, lcl_ref, lcl_null, lcl_long, okR_nil, okR_int, okR_ref, okR_null, okR_long, pushR_some, pushR_none, va_rf_some, va_rf_none, true_and, and_true, true_implies, false_implies, not_true_eq_false, not_false_eq_true, implies_true, bI_eq0, bI_eq1, bI_01, Classical.not_not, or_em, false_and, and_false, hS.1, hS.2.1, hS.2.2.1, hS.2.2.2.1, kT_0, kT_1, kT_2, kT_15, kT_16, kT_17, kT_18, kT_19, kT_80, kT_81, kT_82, kT_89, kT_90, kT_91, kT_92, kT_93, kT_94, kT_95, kT_96, kT_97, kT_98, kT_99, kT_100, kT_101, nT_2, nT_16, nT_17, nT_19, nT_81, nT_82, nT_90, nT_91, nT_94, nT_95, nT_97, nT_98, nT_100, nT_101, rT_0_0, rT_0_3, rT_0_4, rT_0_5, rT_0_6, rT_0_7, rT_0_8, rT_0_9, rT_0_10, rT_1_0, rT_15_0, rT_15_1, rT_18_0, rT_80_0, rT_80_1, rT_89_0, rT_89_1, rT_93_6, rT_93_7, rT_96_0, rT_96_1, rT_99_0, rT_99_1, h1, h2, cj, ij]
  rfl
theorem c_give {d i : Nat} {b : Bool} {p : Int32} {M : ab_M} {K : ab_Q} (hd : 1 ≤ d) (hS : Sh b M) (hi : i < 5) : EvD d 145 [.ref 102, .int (nI i), .int p] M K = K none (wI M 111 i (capI (mI M 111 i + p))) := by
  have cj : (nI i).toNatClampNeg = i := nI_clamp (by omega)
  have ij : inX (nI i) 14 = True := eq_true (inX_nI (by decide) (by omega))
  rw [b_145 hd]
  by_cases h : mI M 111 i + p ≤ 999999
  · rw [capI_le h]
    have h' : (mI M 111 i + p ≤ 999999) = True := eq_true h
    simp +decide only [e_145_0, e_145_1, e_145_4, e_145_5, e_145_6, e_145_7, e_145_8, e_145_9, e_145_10, e_145_13, e_145_14, e_145_15, e_145_17, e_145_20, e_145_22, e_145_25, e_145_26, e_145_27, ↓reduceIte, Int32.reduceAdd, Int32.reduceSub, an_0, an_1, an_2, an_3, an_4, an_5, tc_0, tc_1, tc_2, tc_3, tc_4, tc_5, tc_6, tc_7, tc_8, tc_9, tc_10, tc_11, tc_12, tc_13, tc_14, tc_15, tc_16, tc_17, tc_18, tc_19, tc_20, tc_21, tc_22, tc_23, tc_24, tc_25, tc_26, tc_27, tc_28, tc_29, tc_30, tc_31, tc_32, lcl_none, lcl_int, lcl_ref, lcl_null, lcl_long, okR_nil, okR_int, okR_ref, okR_null, okR_long, pushR_some, pushR_none, va_rf_some, va_rf_none, true_and, and_true, true_implies, false_implies, not_true_eq_false, not_false_eq_true, implies_true, bI_eq0, bI_eq1, bI_01, Classical.not_not, or_em, false_and, and_false, hS.1, hS.2.1, hS.2.2.1, hS.2.2.2.1, kT_102, kT_103, kT_104, kT_105, kT_106, kT_107, kT_108, kT_109, kT_110, kT_111, kT_112, kT_113, kT_114, kT_115, kT_116, kT_117, kT_118, kT_119, kT_120, nT_103, nT_104, nT_105, nT_106, nT_107, nT_108, nT_109, nT_110, nT_111, nT_112, nT_113, nT_114, nT_115, nT_116, nT_117, nT_118, nT_119, nT_120, rT_102_1, rT_102_12, rT_102_13, rT_102_14, rT_102_18, rT_102_19, rT_102_20, rT_102_21, rT_102_22, rT_102_23, rT_102_25, rT_102_26, rT_102_27, rT_102_30, rT_102_31, rT_102_32, rT_102_33, rT_102_34, cj, ij, h']
  · rw [capI_gt h]
    have h' : (mI M 111 i + p ≤ 999999) = False := eq_false h
    simp +decide only [e_145_0, e_145_1, e_145_4, e_145_5, e_145_6, e_145_7, e_145_8, e_145_9, e_145_10, e_145_13, e_145_14, e_145_15, e_145_17, e_145_20, e_145_22, e_145_25, e_145_26, e_145_27, ↓reduceIte, Int32.reduceAdd, Int32.reduceSub, an_0, an_1, an_2, an_3, an_4, an_5, tc_0, tc_1, tc_2, tc_3, tc_4, tc_5, tc_6, tc_7, tc_8, tc_9, tc_10, tc_11, tc_12, tc_13, tc_14, tc_15, tc_16, tc_17, tc_18, tc_19, tc_20, tc_21, tc_22, tc_23, tc_24, tc_25, tc_26, tc_27, tc_28, tc_29, tc_30, tc_31, tc_32, lcl_none, lcl_int, lcl_ref, lcl_null, lcl_long, okR_nil, okR_int, okR_ref, okR_null, okR_long, pushR_some, pushR_none, va_rf_some, va_rf_none, true_and, and_true, true_implies, false_implies, not_true_eq_false, not_false_eq_true, implies_true, bI_eq0, bI_eq1, bI_01, Classical.not_not, or_em, false_and, and_false, hS.1, hS.2.1, hS.2.2.1, hS.2.2.2.1, kT_102, kT_103, kT_104, kT_105, kT_106, kT_107, kT_108, kT_109, kT_110, kT_111, kT_112, kT_113, kT_114, kT_115, kT_116, kT_117, kT_118, kT_119, kT_120, nT_103, nT_104, nT_105, nT_106, nT_107, nT_108, nT_109, nT_110, nT_111, nT_112, nT_113, nT_114, nT_115, nT_116, nT_117, nT_118, nT_119, nT_120, rT_102_1, rT_102_12, rT_102_13, rT_102_14, rT_102_18, rT_102_19, rT_102_20, rT_102_21, rT_102_22, rT_102_23, rT_102_25, rT_102_26, rT_102_27, rT_102_30, rT_102_31, rT_102_32, rT_102_33, rT_102_34, cj, ij, h']
def gvS (S : Nat → Int32) (h p : Int32) : Nat → Int32 := if h = -1 then S else upS S h.toNatClampNeg (capI (S h.toNatClampNeg + p))
def seS (S : Nat → Int32) (l j : Nat) (p : Int32) : Nat → Int32 := upS (gvS (upS S j (S j - p)) (S (5 + l)) p) (5 + l) (nI j)
theorem SI_pur {L P j : Nat} {v : Int32} {S : Nat → Int32} (h : SI L P S) (hP : P ≤ 5) (hj : j < P) : SI L P (upS S j v) := by
  obtain ⟨h1, h2, h3, a, h4, h5⟩ := h
  exact ⟨fun k hk hp => by rw [upS_ne (by omega)]; exact h1 k hk hp, fun k hk hp => by rw [upS_ne (by omega)]; exact h2 k hk hp, fun k hk => by rw [upS_ne (by omega)]; exact h3 k hk, a, h4, by rw [upS_ne (by omega)]; exact h5⟩
theorem SI_hol {L P l j : Nat} {S : Nat → Int32} (h : SI L P S) (hL : L ≤ 5) (hl : l < L) (hj : j < P) : SI L P (upS S (5 + l) (nI j)) := by
  obtain ⟨h1, h2, h3, a, h4, h5⟩ := h
  refine ⟨fun k hk hp => by rw [upS_ne (by omega)]; exact h1 k hk hp, fun k hk hp => by rw [upS_ne (by omega)]; exact h2 k hk hp, fun k hk => ?_, a, h4, by rw [upS_ne (by omega)]; exact h5⟩
  by_cases e : k = l
  · rw [e, upS_at]
    exact Or.inr ⟨j, hj, rfl⟩
  · rw [upS_ne (by omega)]
    exact h3 k hk
theorem SI_se {L P l j : Nat} {p : Int32} {S : Nat → Int32} (h : SI L P S) (hL : L ≤ 5) (hP : P ≤ 5) (hl : l < L) (hj : j < P) : SI L P (seS S l j p) := by
  unfold seS
  refine SI_hol ?_ hL hl hj
  unfold gvS
  rcases h.2.2.1 l (by omega) with e | ⟨i, hi, e⟩
  · rw [if_pos e]
    exact SI_pur h hP hj
  · rw [if_neg (by rw [e]; exact nI_ne_m1 (by omega)), e, nI_clamp (by omega)]
    exact SI_pur (SI_pur h hP hj) hP hi
theorem C_sell1 {d L P n : Nat} {b : Bool} {σ : Sg} {p : Int32} {M : ab_M} (hd : 4 ≤ d) (hS : Sh b M) (hC : RC b M σ) (hI : IV L P σ) (hn : σ 0 6 = nI n) (hn2 : n ≤ 20) (l j : Nat) (hj : j < P) (hl : l < L) (hp : 0 ≤ p ∧ p ≤ 999) (h0 : (σ 5 (5 + l) = nI j) = False) (h1 : hasB (σ 5 10) (nI l) = true) (h3 : ¬ σ 5 j < p) : EvD d 83 [.ref 0, .int (nI l), .int (nI j), .int p] M (fun r M1 => r = some (.int (seS (σ 5) l j p j)) ∧ Sh b M1 ∧ frC M M1 ∧ RC b M1 (uS (pu σ n) (seS (σ 5) l j p))) := by
  obtain ⟨hL, hP, iL, iP⟩ := IV_n hI
  have hC0 := hC
  have hSI := hI.2.2.2.2.2.2.2.1
  obtain ⟨⟨⟨a1, a2, a3⟩, -⟩, -, ⟨n1, n2, n3, n4, n5, n6⟩, -⟩ := hC
  have hx : (0 ≤ nI l ∧ nI l < σ 0 0) = True := by rw [iL]; exact eq_true (ix_nI (by omega) hl)
  have hy : (0 ≤ nI j ∧ nI j < σ 0 1) = True := by rw [iP]; exact eq_true (ix_nI (by omega) hj)
  have pj : mI M 16 j = σ 5 j := n1 j (by omega)
  have ql : mI M 17 l = σ 5 (5 + l) := n2 l (by omega)
  have cj : (nI j).toNatClampNeg = j := nI_clamp (by omega)
  have ij : inX (nI j) 5 = True := eq_true (inX_nI (by decide) (by omega))
  have cl : (nI l).toNatClampNeg = l := nI_clamp (by omega)
  have il : inX (nI l) 5 = True := eq_true (inX_nI (by decide) (by omega))
  have hp1 : (p < 0) = False := eq_false (Int32.not_lt.mpr hp.1)
  have hp2 : (p ≤ 999) = True := eq_true hp.2
  have h3' : (p ≤ σ 5 j) = True := eq_true (Int32.not_lt.mp h3)
  have h3'' : (σ 5 j < p) = False := eq_false h3
  rw [b_83 hd]
  simp +decide only [e_83_0, e_83_1, e_83_4, e_83_5, e_83_8, e_83_11, e_83_12, e_83_15, e_83_16, e_83_19, e_83_22, e_83_24, e_83_25, e_83_26, e_83_29, e_83_30, e_83_33, e_83_36, e_83_38, e_83_39, e_83_40, e_83_43, e_83_46, e_83_47, e_83_48, e_83_50, e_83_52, e_83_53, e_83_56, e_83_57, e_83_60, e_83_61, e_83_64, e_83_67, e_83_68, e_83_71, e_83_74, e_83_75, e_83_76, e_83_77, e_83_80, e_83_82, e_83_83, e_83_84, e_83_87, e_83_88, e_83_91, e_83_94, e_83_95, e_83_98, e_83_101, e_83_102, e_83_103, e_83_104, e_83_105, e_83_106, e_83_107, e_83_108, e_83_111, e_83_113, e_83_116, e_83_119, e_83_120, e_83_123, e_83_125, e_83_126, e_83_129, e_83_130, e_83_133, e_83_136, e_83_137, e_83_138, e_83_139, e_83_140, e_83_143, e_83_146, e_83_147, e_83_148, ↓reduceIte, Int32.reduceAdd, Int32.reduceSub, an_0, an_1, an_2, an_3, an_4, an_5, tc_0, tc_1, tc_2, tc_3, tc_4, tc_5, tc_6, tc_7, tc_8, tc_9, tc_10, tc_11, tc_12, tc_13, tc_14, tc_15, tc_16, tc_17, tc_18, tc_19, tc_20, tc_21, tc_22, tc_23, tc_24, tc_25, tc_26, tc_27, tc_28, tc_29, tc_30, tc_31, tc_32, lcl_none, lcl_int, lcl_ref, lcl_null, lcl_long, okR_nil, okR_int, okR_ref, okR_null, okR_long, pushR_some, pushR_none, va_rf_some, va_rf_none, true_and, and_true, true_implies, false_implies, not_true_eq_false, not_false_eq_true, implies_true, bI_eq0, bI_eq1, bI_01, Classical.not_not, or_em, false_and, and_false, hS.1, hS.2.1, hS.2.2.1, hS.2.2.2.1, kT_0, kT_1, kT_2, kT_15, kT_16, kT_17, kT_18, kT_19, kT_80, kT_81, kT_82, kT_89, kT_90, kT_91, kT_92, kT_93, kT_94, kT_95, kT_96, kT_97, kT_98, kT_99, kT_100, kT_101, nT_2, nT_16, nT_17, nT_19, nT_81, nT_82, nT_90, nT_91, nT_94, nT_95, nT_97, nT_98, nT_100, nT_101, rT_0_0, rT_0_3, rT_0_4, rT_0_5, rT_0_6, rT_0_7, rT_0_8, rT_0_9, rT_0_10, rT_1_0, rT_15_0, rT_15_1, rT_18_0, rT_80_0, rT_80_1, rT_89_0, rT_89_1, rT_93_6, rT_93_7, rT_96_0, rT_96_1, rT_99_0, rT_99_1, chS1, chK, chR7, chK7, chN7, chR8, chK8, chN8, chR9, chK9, chN9, chR10, chK10, chN10, chR11, chK11, chN11, c_hasLife (d := 3) (by decide), c_hasSub (d := 3) (by decide), c_isAliveC (d := 3) (by decide), a1, a2, hx, hy, hp1, hp2, n3, pj, ql, cj, ij, cl, il, h0, h1, h3', h3'']
  refine EvD_mono (C_remember (Nat.le_refl 3) hS hC0 hn hn2) ?_
  rintro r M' ⟨rfl, hS', hC', hf⟩
  have hC2 := hC'
  obtain ⟨⟨⟨-, b2, -⟩, -⟩, -, ⟨m1, m2, m3, m4, m5, m6⟩, -⟩ := hC2
  rw [pu_ne (by decide) (by decide)] at m1 m2 m3 m4 m5 m6
  rw [pu_0 (by decide)] at b2
  have pj' : mI M' 16 j = σ 5 j := m1 j (by omega)
  have hS := hS'
  have fin : ∀ M2, (∀ a, a ≠ 16 → a ≠ 17 → mI M2 a = mI M' a) → (∀ k, k < 5 → mI M2 16 k = seS (σ 5) l j p k) → (∀ k, k < 5 → mI M2 17 k = seS (σ 5) l j p (5 + k)) → frC M M2 ∧ RC b M2 (uS (pu σ n) (seS (σ 5) l j p)) := by
    intro M2 g1 g2 g3
    have e15 := g1 15 (by decide) (by decide)
    have hk : ∀ k, 10 ≤ k → seS (σ 5) l j p k = σ 5 k := by
      intro k hk
      unfold seS gvS
      rw [upS_ne (by omega)]
      rcases hSI.2.2.1 l (by omega) with e | ⟨i, hi, e⟩
      · rw [if_pos e, upS_ne (by omega)]
      · rw [if_neg (by rw [e]; exact nI_ne_m1 (by omega)), e, nI_clamp (by omega), upS_ne (by omega), upS_ne (by omega)]
    exact ⟨hf.tr (fun a ha => g1 a (by omega) (by omega)), RC_now hC' (fun a ha => g1 a (by omega) (by omega)) ⟨g2, g3, by rw [e15, m3, hk _ (by decide)], by rw [e15, m4, hk _ (by decide)], by rw [e15, m5, hk _ (by decide)], by rw [e15, m6, hk _ (by decide)]⟩⟩
  rcases hSI.2.2.1 l (by omega) with e | ⟨i, hi, e⟩
  · have hz : (0 ≤ (-1 : Int32) ∧ (-1 : Int32) < σ 0 1) = False := eq_false (fun z => absurd z.1 (by decide))
    simp +decide only [e_83_0, e_83_1, e_83_4, e_83_5, e_83_8, e_83_11, e_83_12, e_83_15, e_83_16, e_83_19, e_83_22, e_83_24, e_83_25, e_83_26, e_83_29, e_83_30, e_83_33, e_83_36, e_83_38, e_83_39, e_83_40, e_83_43, e_83_46, e_83_47, e_83_48, e_83_50, e_83_52, e_83_53, e_83_56, e_83_57, e_83_60, e_83_61, e_83_64, e_83_67, e_83_68, e_83_71, e_83_74, e_83_75, e_83_76, e_83_77, e_83_80, e_83_82, e_83_83, e_83_84, e_83_87, e_83_88, e_83_91, e_83_94, e_83_95, e_83_98, e_83_101, e_83_102, e_83_103, e_83_104, e_83_105, e_83_106, e_83_107, e_83_108, e_83_111, e_83_113, e_83_116, e_83_119, e_83_120, e_83_123, e_83_125, e_83_126, e_83_129, e_83_130, e_83_133, e_83_136, e_83_137, e_83_138, e_83_139, e_83_140, e_83_143, e_83_146, e_83_147, e_83_148, ↓reduceIte, Int32.reduceAdd, Int32.reduceSub, an_0, an_1, an_2, an_3, an_4, an_5, tc_0, tc_1, tc_2, tc_3, tc_4, tc_5, tc_6, tc_7, tc_8, tc_9, tc_10, tc_11, tc_12, tc_13, tc_14, tc_15, tc_16, tc_17, tc_18, tc_19, tc_20, tc_21, tc_22, tc_23, tc_24, tc_25, tc_26, tc_27, tc_28, tc_29, tc_30, tc_31, tc_32, lcl_none, lcl_int, lcl_ref, lcl_null, lcl_long, okR_nil, okR_int, okR_ref, okR_null, okR_long, pushR_some, pushR_none, va_rf_some, va_rf_none, true_and, and_true, true_implies, false_implies, not_true_eq_false, not_false_eq_true, implies_true, bI_eq0, bI_eq1, bI_01, Classical.not_not, or_em, false_and, and_false, hS.1, hS.2.1, hS.2.2.1, hS.2.2.2.1, kT_0, kT_1, kT_2, kT_15, kT_16, kT_17, kT_18, kT_19, kT_80, kT_81, kT_82, kT_89, kT_90, kT_91, kT_92, kT_93, kT_94, kT_95, kT_96, kT_97, kT_98, kT_99, kT_100, kT_101, nT_2, nT_16, nT_17, nT_19, nT_81, nT_82, nT_90, nT_91, nT_94, nT_95, nT_97, nT_98, nT_100, nT_101, rT_0_0, rT_0_3, rT_0_4, rT_0_5, rT_0_6, rT_0_7, rT_0_8, rT_0_9, rT_0_10, rT_1_0, rT_15_0, rT_15_1, rT_18_0, rT_80_0, rT_80_1, rT_89_0, rT_89_1, rT_93_6, rT_93_7, rT_96_0, rT_96_1, rT_99_0, rT_99_1, chS1, chK, chR7, chK7, chN7, chR8, chK8, chN8, chR9, chK9, chN9, chR10, chK10, chN10, chR11, chK11, chN11, mI_wI, mI_wJ, mI_wR, mJ_wI, mJ_wJ, mJ_wR, mR_wI, mR_wJ, mR_wR, mK_wI, mK_wJ, mK_wR, mN_wI, mN_wJ, mN_wR, mZ_wI, mZ_wJ, mZ_wR, c_hasSub (d := 3) (by decide), e, b2, hz, pj', cj, ij, cl, il, chL_n3]
    have eS : seS (σ 5) l j p = upS (upS (σ 5) j (σ 5 j - p)) (5 + l) (nI j) := by unfold seS gvS; rw [if_pos e]
    obtain ⟨f1, f2⟩ := fin (wI (wI M' 16 j (σ 5 j - p)) 17 l (nI j)) (fun a g1 g2 => by rw [mI_wI_ne g2, mI_wI_ne g1]) (fun k hk => by
      rw [eS, upS_ne (by omega), mI_wI_ne (by decide), mI_wI]
      by_cases hkj : k = j
      · rw [hkj, if_pos ⟨rfl, rfl⟩, upS_at]
      · rw [if_neg (fun z => hkj z.2), upS_ne hkj]
        exact m1 k hk) (fun k hk => by
      rw [eS, mI_wI]
      by_cases hkl : k = l
      · rw [hkl, if_pos ⟨rfl, rfl⟩, upS_at]
      · rw [if_neg (fun z => hkl z.2), upS_ne (by omega), upS_ne (by omega), mI_wI_ne (by decide)]
        exact m2 k hk)
    exact ⟨by rw [eS, upS_ne (by omega), upS_at], hS', f1, f2⟩
  · have hz : (0 ≤ nI i ∧ nI i < σ 0 1) = True := by rw [iP]; exact eq_true (ix_nI (by omega) hi)
    have hij : j ≠ i := fun z => by rw [e, z] at h0; exact of_eq_false h0 rfl
    have hij1 : (i = j) = False := eq_false (fun z => hij z.symm)
    have hij2 : (j = i) = False := eq_false hij
    have pi' : mI M' 16 i = σ 5 i := m1 i (by omega)
    have hrc : ∀ K, EvD 3 44 [.ref 15, .int (nI i), .int p] (wI M' 16 j (σ 5 j - p)) K = K none (wI (wI M' 16 j (σ 5 j - p)) 16 i (capI (mI (wI M' 16 j (σ 5 j - p)) 16 i + p))) := fun K => c_receive (d := 3) (by decide) hS (by omega)
    simp +decide only [e_83_0, e_83_1, e_83_4, e_83_5, e_83_8, e_83_11, e_83_12, e_83_15, e_83_16, e_83_19, e_83_22, e_83_24, e_83_25, e_83_26, e_83_29, e_83_30, e_83_33, e_83_36, e_83_38, e_83_39, e_83_40, e_83_43, e_83_46, e_83_47, e_83_48, e_83_50, e_83_52, e_83_53, e_83_56, e_83_57, e_83_60, e_83_61, e_83_64, e_83_67, e_83_68, e_83_71, e_83_74, e_83_75, e_83_76, e_83_77, e_83_80, e_83_82, e_83_83, e_83_84, e_83_87, e_83_88, e_83_91, e_83_94, e_83_95, e_83_98, e_83_101, e_83_102, e_83_103, e_83_104, e_83_105, e_83_106, e_83_107, e_83_108, e_83_111, e_83_113, e_83_116, e_83_119, e_83_120, e_83_123, e_83_125, e_83_126, e_83_129, e_83_130, e_83_133, e_83_136, e_83_137, e_83_138, e_83_139, e_83_140, e_83_143, e_83_146, e_83_147, e_83_148, ↓reduceIte, Int32.reduceAdd, Int32.reduceSub, an_0, an_1, an_2, an_3, an_4, an_5, tc_0, tc_1, tc_2, tc_3, tc_4, tc_5, tc_6, tc_7, tc_8, tc_9, tc_10, tc_11, tc_12, tc_13, tc_14, tc_15, tc_16, tc_17, tc_18, tc_19, tc_20, tc_21, tc_22, tc_23, tc_24, tc_25, tc_26, tc_27, tc_28, tc_29, tc_30, tc_31, tc_32, lcl_none, lcl_int, lcl_ref, lcl_null, lcl_long, okR_nil, okR_int, okR_ref, okR_null, okR_long, pushR_some, pushR_none, va_rf_some, va_rf_none, true_and, and_true, true_implies, false_implies, not_true_eq_false, not_false_eq_true, implies_true, bI_eq0, bI_eq1, bI_01, Classical.not_not, or_em, false_and, and_false, hS.1, hS.2.1, hS.2.2.1, hS.2.2.2.1, kT_0, kT_1, kT_2, kT_15, kT_16, kT_17, kT_18, kT_19, kT_80, kT_81, kT_82, kT_89, kT_90, kT_91, kT_92, kT_93, kT_94, kT_95, kT_96, kT_97, kT_98, kT_99, kT_100, kT_101, nT_2, nT_16, nT_17, nT_19, nT_81, nT_82, nT_90, nT_91, nT_94, nT_95, nT_97, nT_98, nT_100, nT_101, rT_0_0, rT_0_3, rT_0_4, rT_0_5, rT_0_6, rT_0_7, rT_0_8, rT_0_9, rT_0_10, rT_1_0, rT_15_0, rT_15_1, rT_18_0, rT_80_0, rT_80_1, rT_89_0, rT_89_1, rT_93_6, rT_93_7, rT_96_0, rT_96_1, rT_99_0, rT_99_1, chS1, chK, chR7, chK7, chN7, chR8, chK8, chN8, chR9, chK9, chN9, chR10, chK10, chN10, chR11, chK11, chN11, mI_wI, mI_wJ, mI_wR, mJ_wI, mJ_wJ, mJ_wR, mR_wI, mR_wJ, mR_wR, mK_wI, mK_wJ, mK_wR, mN_wI, mN_wJ, mN_wR, mZ_wI, mZ_wJ, mZ_wR, c_hasSub (d := 3) (by decide), hrc, e, b2, hz, pj', pi', cj, ij, cl, il, chL_n3, hij1, hij2]
    have eS : seS (σ 5) l j p = upS (upS (upS (σ 5) j (σ 5 j - p)) i (capI (σ 5 i + p))) (5 + l) (nI j) := by
      unfold seS gvS
      rw [if_neg (by rw [e]; exact nI_ne_m1 (by omega)), e, nI_clamp (by omega), upS_ne (j := i) (fun z => hij z.symm)]
    obtain ⟨f1, f2⟩ := fin (wI (wI (wI M' 16 j (σ 5 j - p)) 16 i (capI (σ 5 i + p))) 17 l (nI j)) (fun a g1 g2 => by rw [mI_wI_ne g2, mI_wI_ne g1, mI_wI_ne g1]) (fun k hk => by
      rw [eS, upS_ne (by omega), mI_wI_ne (by decide), mI_wI]
      by_cases hki : k = i
      · rw [hki, if_pos ⟨rfl, rfl⟩, upS_at]
      · rw [if_neg (fun z => hki z.2), upS_ne hki, mI_wI]
        by_cases hkj : k = j
        · rw [hkj, if_pos ⟨rfl, rfl⟩, upS_at]
        · rw [if_neg (fun z => hkj z.2), upS_ne hkj]
          exact m1 k hk) (fun k hk => by
      rw [eS, mI_wI]
      by_cases hkl : k = l
      · rw [hkl, if_pos ⟨rfl, rfl⟩, upS_at]
      · rw [if_neg (fun z => hkl z.2), upS_ne (by omega), upS_ne (by omega), upS_ne (by omega), mI_wI_ne (by decide), mI_wI_ne (by decide)]
        exact m2 k hk)
    exact ⟨by rw [eS, upS_ne (by omega), upS_ne hij, upS_at], hS', f1, f2⟩
