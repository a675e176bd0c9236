/-! game, the model's loop -/
theorem ix_pred9 {s : Int32} {P : Nat} (hP : P ≤ 9) : (0 ≤ s ∧ s ≤ nI P - 1) = (0 ≤ s ∧ s < nI P) := by
  apply propext
  have h1 : (nI P - 1).toInt = (P : Int) - 1 := pk_sub_toInt (a := P) (b := 1) (by omega) (by omega)
  rw [Int32.le_iff_toInt_le, Int32.le_iff_toInt_le, Int32.lt_iff_toInt_lt, h1, nI_toInt (by omega : P < 2 ^ 31)]
  omega
theorem seP_n {r : Nat → Bool} {i : Int32} : ∀ p, (∀ k, k < cnB r p → i ≠ nI k) → seP r i p = -1 := by
  intro p
  induction p with
  | zero => intro _; rfl
  | succ p ih =>
    intro h
    have ec : cnB r (p + 1) = cnB r p + if r p = true then 1 else 0 := rfl
    show (if r p = true ∧ nI (cnB r p) = i then plV p else seP r i p) = -1
    by_cases hr : r p = true
    · rw [if_pos hr] at ec
      rw [if_neg (fun z => h (cnB r p) (by omega) z.2.symm)]
      exact ih (fun k hk => h k (by omega))
    · rw [if_neg hr] at ec
      rw [if_neg (fun z => hr z.1)]
      exact ih (fun k hk => h k (by omega))
theorem L_gm {L P s t n al x y : Nat} {i : Int32} {b0 : Bool} {σ : Sg} {M0 : ab_M} {Q : ab_Q} (hM0 : RM M0 σ) (hI : IV L P σ) (hal : σ 5 10 = nI al) (haL : al < 2 ^ L) (hs : s < P) (ht : t < P) (hn : n ≤ 20) (hx : x < 5) (hy : y < 5) {r : Nat → Bool} (hr : r = fun p => rsB (xI (guN σ L P s x y n al) (fun a _ => kN σ a)) (xI (guN σ L P t x y n al) (fun _ b => kN σ b)) (p / 3) (p % 3) 3) (hQ : ∀ M1 p x9 x10 x11 x12 x13 x14, Sh b0 M1 → (∀ c, c ≠ 120 → mI M1 c = mI M0 c) → (∀ k, k < cnB r 9 → mI M1 120 k = seP r (nI k) 9) → Ev 5 170 260 [some (.ref 102), some (.int (nI s)), some (.int (nI t)), some (.int (nI n)), some (.int i), some (.int (nI x)), some (.int (nI y)), some (.int (nI (cnB r 9))), some (.int p), x9, x10, x11, x12, x13, x14] [] M1 Q) : ∀ m p M x9 x10 x11 x12 x13 x14, p + m = 9 → Sh b0 M → (∀ c, c ≠ 120 → mI M c = mI M0 c) → (∀ k, k < cnB r p → mI M 120 k = seP r (nI k) p) → Ev 5 170 72 [some (.ref 102), some (.int (nI s)), some (.int (nI t)), some (.int (nI n)), some (.int i), some (.int (nI x)), some (.int (nI y)), some (.int (nI (cnB r p))), some (.int (nI p)), x9, x10, x11, x12, x13, x14] [] M Q := by
  intro m
  induction m with
  | zero =>
    intro p M x9 x10 x11 x12 x13 x14 hp hS hf hA
    have h1 : (9 ≤ nI p) = True := by rw [show p = 9 by omega]; exact eq_true (by decide)
    rw [e_170_72]
    simp +decide only [e_170_74, e_170_76, ↓reduceIte, Int32.reduceAdd, Int32.reduceSub, an_0, an_1, an_2, an_3, an_4, an_5, tc_0, tc_1, tc_2, tc_3, tc_4, tc_5, tc_6, tc_7, tc_8, tc_9, tc_10, tc_11, tc_12, tc_13, tc_14, tc_15, tc_16, tc_17, tc_18, tc_19, tc_20, tc_21, tc_22, tc_23, tc_24, tc_25, tc_26, tc_27, tc_28, tc_29, tc_30, tc_31, tc_32, lcl_none, lcl_int, lcl_ref, lcl_null, lcl_long, okR_nil, okR_int, okR_ref, okR_null, okR_long, pushR_some, pushR_none, va_rf_some, va_rf_none, true_and, and_true, true_implies, false_implies, not_true_eq_false, not_false_eq_true, implies_true, bI_eq0, bI_eq1, bI_01, Classical.not_not, or_em, false_and, and_false, h1]
    rw [show p = 9 by omega] at hA ⊢
    exact hQ M _ _ _ _ _ _ _ hS hf hA
  | succ m ih =>
    intro p M x9 x10 x11 x12 x13 x14 hp hS hf hA
    have hM : RM M σ := RM_scr hM0 (fun a _ ha => hf a (by omega))
    have h1 : (9 ≤ nI p) = False := by rw [show (9 : Int32) = nI 9 from rfl, nI_leE (by decide) (by omega)]; exact eq_false (by omega)
    have e1 : nI p / 3 = nI (p / 3) := pk_div (a := p) (d := 3) (by omega) (by decide) (by decide)
    have e2 : nI p - nI p / 3 * 3 = nI (p % 3) := pk_rem (a := p) (d := 3) (by omega) (by decide) (by decide)
    rw [e1] at e2
    have e0 : ((3 : Int32) = 0) = False := by decide
    have hk : mK M 102 = 11 := by rw [hS.1]; rfl
    have ha : p / 3 < 3 := by omega
    have hb : p % 3 < 3 := by omega
    rw [e_170_72]
    simp +decide only [e_170_74, e_170_76, e_170_79, e_170_81, e_170_82, e_170_83, e_170_85, e_170_87, e_170_88, e_170_89, e_170_91, e_170_92, e_170_93, e_170_94, e_170_96, e_170_98, e_170_100, e_170_102, ↓reduceIte, Int32.reduceAdd, Int32.reduceSub, an_0, an_1, an_2, an_3, an_4, an_5, tc_0, tc_1, tc_2, tc_3, tc_4, tc_5, tc_6, tc_7, tc_8, tc_9, tc_10, tc_11, tc_12, tc_13, tc_14, tc_15, tc_16, tc_17, tc_18, tc_19, tc_20, tc_21, tc_22, tc_23, tc_24, tc_25, tc_26, tc_27, tc_28, tc_29, tc_30, tc_31, tc_32, lcl_none, lcl_int, lcl_ref, lcl_null, lcl_long, okR_nil, okR_int, okR_ref, okR_null, okR_long, pushR_some, pushR_none, va_rf_some, va_rf_none, true_and, and_true, true_implies, false_implies, not_true_eq_false, not_false_eq_true, implies_true, bI_eq0, bI_eq1, bI_01, Classical.not_not, or_em, false_and, and_false, h1, e0, e1, e2, hk]
    refine EvD_mono (M_played hS hM hI hal haL hs hn hx hy ha hb) ?_
    rintro q M1 ⟨rfl, hS1, hI1⟩
    have hM1 : RM M1 σ := RM_scr hM (fun a _ _ => by rw [hI1])
    have hk1 : mK M1 102 = 11 := by rw [hS1.1]; rfl
    simp +decide only [e_170_105, e_170_106, e_170_108, e_170_111, e_170_112, e_170_114, e_170_115, e_170_116, e_170_117, e_170_119, e_170_121, e_170_123, e_170_125, ↓reduceIte, Int32.reduceAdd, Int32.reduceSub, an_0, an_1, an_2, an_3, an_4, an_5, tc_0, tc_1, tc_2, tc_3, tc_4, tc_5, tc_6, tc_7, tc_8, tc_9, tc_10, tc_11, tc_12, tc_13, tc_14, tc_15, tc_16, tc_17, tc_18, tc_19, tc_20, tc_21, tc_22, tc_23, tc_24, tc_25, tc_26, tc_27, tc_28, tc_29, tc_30, tc_31, tc_32, lcl_none, lcl_int, lcl_ref, lcl_null, lcl_long, okR_nil, okR_int, okR_ref, okR_null, okR_long, pushR_some, pushR_none, va_rf_some, va_rf_none, true_and, and_true, true_implies, false_implies, not_true_eq_false, not_false_eq_true, implies_true, bI_eq0, bI_eq1, bI_01, Classical.not_not, or_em, false_and, and_false, hk1, M_cost (d := 5) (by decide) hS1 hM1 hI ha]
    refine EvD_mono (M_played hS1 hM1 hI hal haL ht hn hx hy ha hb) ?_
    rintro q M2 ⟨rfl, hS2, hI2⟩
    have hM2 : RM M2 σ := RM_scr hM1 (fun a _ _ => by rw [hI2])
    have hk2 : mK M2 102 = 11 := by rw [hS2.1]; rfl
    simp +decide only [e_170_128, e_170_129, e_170_131, e_170_134, e_170_135, e_170_137, e_170_138, e_170_140, e_170_141, ↓reduceIte, Int32.reduceAdd, Int32.reduceSub, an_0, an_1, an_2, an_3, an_4, an_5, tc_0, tc_1, tc_2, tc_3, tc_4, tc_5, tc_6, tc_7, tc_8, tc_9, tc_10, tc_11, tc_12, tc_13, tc_14, tc_15, tc_16, tc_17, tc_18, tc_19, tc_20, tc_21, tc_22, tc_23, tc_24, tc_25, tc_26, tc_27, tc_28, tc_29, tc_30, tc_31, tc_32, lcl_none, lcl_int, lcl_ref, lcl_null, lcl_long, okR_nil, okR_int, okR_ref, okR_null, okR_long, pushR_some, pushR_none, va_rf_some, va_rf_none, true_and, and_true, true_implies, false_implies, not_true_eq_false, not_false_eq_true, implies_true, bI_eq0, bI_eq1, bI_01, Classical.not_not, or_em, false_and, and_false, hk2, M_cost (d := 5) (by decide) hS2 hM2 hI hb]
    refine L_gr (M0 := M2) hM2 hI hal haL hs ht hn hx hy ha hb (fun M3 hS3 hI3 => ?_) 3 0 M2 1 (by omega) rfl hS2 rfl
    have hI4 : mI M3 = mI M := hI3.trans (hI2.trans hI1)
    have hf4 : ∀ c, c ≠ 120 → mI M3 c = mI M0 c := fun c hc => by rw [hI4]; exact hf c hc
    have er : r p = rsB (xI (guN σ L P s x y n al) (fun a _ => kN σ a)) (xI (guN σ L P t x y n al) (fun _ b => kN σ b)) (p / 3) (p % 3) 3 := by rw [hr]
    rw [← er]
    have ec : cnB r (p + 1) = cnB r p + if r p = true then 1 else 0 := rfl
    have hle := cnB_le r p
    have hih := fun M x9 x10 x11 x12 x13 x14 => ih (p + 1) M x9 x10 x11 x12 x13 x14 (by omega)
    have e3 : (10 : Int32) * nI (p / 3) = nI (10 * (p / 3)) := pk_mul 10 _
    cases hrp : r p with
    | true =>
      rw [hrp, if_pos rfl] at ec
      rw [ec] at hih
      have hcl : (nI (cnB r p)).toNatClampNeg = cnB r p := nI_clamp (by omega)
      have hin : inX (nI (cnB r p)) 9 = True := eq_true (inX_nI (by decide) (by omega))
      simp +decide only [e_170_231, e_170_233, e_170_236, e_170_237, e_170_240, e_170_242, e_170_244, e_170_246, e_170_247, e_170_249, e_170_250, e_170_251, e_170_254, e_170_257, ↓reduceIte, Int32.reduceAdd, Int32.reduceSub, an_0, an_1, an_2, an_3, an_4, an_5, tc_0, tc_1, tc_2, tc_3, tc_4, tc_5, tc_6, tc_7, tc_8, tc_9, tc_10, tc_11, tc_12, tc_13, tc_14, tc_15, tc_16, tc_17, tc_18, tc_19, tc_20, tc_21, tc_22, tc_23, tc_24, tc_25, tc_26, tc_27, tc_28, tc_29, tc_30, tc_31, tc_32, lcl_none, lcl_int, lcl_ref, lcl_null, lcl_long, okR_nil, okR_int, okR_ref, okR_null, okR_long, pushR_some, pushR_none, va_rf_some, va_rf_none, true_and, and_true, true_implies, false_implies, not_true_eq_false, not_false_eq_true, implies_true, bI_eq0, bI_eq1, bI_01, Classical.not_not, or_em, false_and, and_false, hS3.1, hS3.2.1, hS3.2.2.1, kT_102, kT_103, kT_104, kT_105, kT_106, kT_107, kT_108, kT_109, kT_110, kT_111, kT_112, kT_113, kT_114, kT_115, kT_116, kT_117, kT_118, kT_119, kT_120, nT_103, nT_104, nT_105, nT_106, nT_107, nT_108, nT_109, nT_110, nT_111, nT_112, nT_113, nT_114, nT_115, nT_116, nT_117, nT_118, nT_119, nT_120, rT_102_1, rT_102_12, rT_102_13, rT_102_14, rT_102_18, rT_102_19, rT_102_20, rT_102_21, rT_102_22, rT_102_23, rT_102_25, rT_102_26, rT_102_27, rT_102_30, rT_102_31, rT_102_32, rT_102_33, rT_102_34, b01, cond_true, hcl, hin, e3, nI_add, nI_1]
      refine hih _ _ _ _ _ _ _ hS3 (fun c hc => by rw [mI_wI_ne hc]; exact hf4 c hc) (fun k hk => ?_)
      have hs2 : seP r (nI k) (p + 1) = if r p = true ∧ nI (cnB r p) = nI k then plV p else seP r (nI k) p := rfl
      rw [hs2, mI_wI]
      by_cases ek : k = cnB r p
      · rw [if_pos ⟨rfl, ek⟩, if_pos ⟨hrp, by rw [ek]⟩]
        rfl
      · rw [if_neg (fun z => ek z.2), if_neg (fun z => ek ((nI_eq (by omega) (by omega)).mp z.2).symm), hI4]
        exact hA k (by omega)
    | false =>
      rw [hrp, if_neg (by decide), Nat.add_zero (cnB r p)] at ec
      rw [ec] at hih
      simp +decide only [e_170_231, e_170_233, e_170_236, e_170_237, e_170_240, e_170_242, e_170_244, e_170_246, e_170_247, e_170_249, e_170_250, e_170_251, e_170_254, e_170_257, ↓reduceIte, Int32.reduceAdd, Int32.reduceSub, an_0, an_1, an_2, an_3, an_4, an_5, tc_0, tc_1, tc_2, tc_3, tc_4, tc_5, tc_6, tc_7, tc_8, tc_9, tc_10, tc_11, tc_12, tc_13, tc_14, tc_15, tc_16, tc_17, tc_18, tc_19, tc_20, tc_21, tc_22, tc_23, tc_24, tc_25, tc_26, tc_27, tc_28, tc_29, tc_30, tc_31, tc_32, lcl_none, lcl_int, lcl_ref, lcl_null, lcl_long, okR_nil, okR_int, okR_ref, okR_null, okR_long, pushR_some, pushR_none, va_rf_some, va_rf_none, true_and, and_true, true_implies, false_implies, not_true_eq_false, not_false_eq_true, implies_true, bI_eq0, bI_eq1, bI_01, Classical.not_not, or_em, false_and, and_false, b01, cond_false, nI_1]
      refine hih _ _ _ _ _ _ _ hS3 hf4 (fun k hk => ?_)
      have hs2 : seP r (nI k) (p + 1) = if r p = true ∧ nI (cnB r p) = nI k then plV p else seP r (nI k) p := rfl
      rw [hs2, hI4, if_neg (fun z => absurd (hrp.symm.trans z.1) (by decide))]
      exact hA k hk
theorem M_game {L P s t n al : Nat} {i : Int32} {b0 : Bool} {σ : Sg} {M : ab_M} (hS : Sh b0 M) (hM : RM M σ) (hI : IV L P σ) (hal : σ 5 10 = nI al) (haL : al < 2 ^ L) (hs : s < P) (ht : t < P) (hst : s ≠ t) (hn1 : 1 ≤ n) (hn : n ≤ 20) (h1 : hsN (σ 5) (nI s) &&& al ≠ 0) (h2 : hsN (σ 5) (nI t) &&& al ≠ 0) : EvD 20 170 [.ref 102, .int (nI s), .int (nI t), .int (nI n), .int i] M (fun r M1 => r = some (.int (if i = -1 then nI (cnB (fun p => rsB (xI (guN σ L P s (lfN (hsN (σ 5) (nI s) &&& al)) (lfN (hsN (σ 5) (nI t) &&& al)) n al) (fun a _ => kN σ a)) (xI (guN σ L P t (lfN (hsN (σ 5) (nI s) &&& al)) (lfN (hsN (σ 5) (nI t) &&& al)) n al) (fun _ b => kN σ b)) (p / 3) (p % 3) 3) 9) else seP (fun p => rsB (xI (guN σ L P s (lfN (hsN (σ 5) (nI s) &&& al)) (lfN (hsN (σ 5) (nI t) &&& al)) n al) (fun a _ => kN σ a)) (xI (guN σ L P t (lfN (hsN (σ 5) (nI s) &&& al)) (lfN (hsN (σ 5) (nI t) &&& al)) n al) (fun _ b => kN σ b)) (p / 3) (p % 3) 3) i 9)) ∧ Sh b0 M1 ∧ ∀ a, a < 119 → mI M1 a = mI M a) := by
  obtain ⟨hL, hP, iL, iP⟩ := IV_n hI
  have h32 := pow_L hL
  have hx : (0 ≤ nI s ∧ nI s ≤ mI M 102 17 - 1) = True := by rw [hM.1.1.2.1, iP, ix_pred hP]; exact eq_true (ix_nI (by omega) hs)
  have hy : (0 ≤ nI t ∧ nI t ≤ mI M 102 17 - 1) = True := by rw [hM.1.1.2.1, iP, ix_pred hP]; exact eq_true (ix_nI (by omega) ht)
  have hne : (nI s = nI t) = False := by rw [nI_eqE (by omega) (by omega)]; exact eq_false hst
  have hnx : (1 ≤ nI n ∧ nI n ≤ 20) = True := eq_true ⟨(nI_leE (a := 1) (by decide) (by omega)).mpr hn1, (nI_leE (b := 20) (by omega) (by decide)).mpr hn⟩
  have ls := and_lt32 _ (hsN_lt (σ 5) (nI s)) al (by omega)
  have lt := and_lt32 _ (hsN_lt (σ 5) (nI t)) al (by omega)
  have xs := (lf_lt _ ls h1).1
  have xt := (lf_lt _ lt h2).1
  have hls : ∀ K, EvD 5 167 [.ref 102, .int (nI s)] M K = K (some (.int (nI (lfN (hsN (σ 5) (nI s) &&& al))))) M := fun K => by rw [c_leastM (d := 5) (by decide) hS hM hI hal haL, if_neg h1]
  have hlt : ∀ K, EvD 5 167 [.ref 102, .int (nI t)] M K = K (some (.int (nI (lfN (hsN (σ 5) (nI t) &&& al))))) M := fun K => by rw [c_leastM (d := 5) (by decide) hS hM hI hal haL, if_neg h2]
  have z1 : (nI (lfN (hsN (σ 5) (nI s) &&& al)) = -1) = False := eq_false (nI_ne_m1 (by omega))
  have z2 : (nI (lfN (hsN (σ 5) (nI t) &&& al)) = -1) = False := eq_false (nI_ne_m1 (by omega))
  rw [b_170 (by decide)]
  simp +decide only [e_170_0, e_170_1, e_170_2, e_170_5, e_170_8, e_170_9, e_170_10, e_170_13, e_170_16, e_170_17, e_170_18, e_170_21, e_170_23, e_170_24, e_170_25, e_170_26, e_170_28, e_170_31, e_170_34, e_170_36, e_170_37, e_170_38, e_170_39, e_170_42, e_170_44, e_170_45, e_170_46, e_170_49, e_170_51, e_170_53, e_170_54, e_170_57, e_170_59, e_170_60, e_170_63, e_170_65, e_170_66, e_170_67, e_170_69, e_170_70, ↓reduceIte, Int32.reduceAdd, Int32.reduceSub, an_0, an_1, an_2, an_3, an_4, an_5, tc_0, tc_1, tc_2, tc_3, tc_4, tc_5, tc_6, tc_7, tc_8, tc_9, tc_10, tc_11, tc_12, tc_13, tc_14, tc_15, tc_16, tc_17, tc_18, tc_19, tc_20, tc_21, tc_22, tc_23, tc_24, tc_25, tc_26, tc_27, tc_28, tc_29, tc_30, tc_31, tc_32, lcl_none, lcl_int, lcl_ref, lcl_null, lcl_long, okR_nil, okR_int, okR_ref, okR_null, okR_long, pushR_some, pushR_none, va_rf_some, va_rf_none, true_and, and_true, true_implies, false_implies, not_true_eq_false, not_false_eq_true, implies_true, bI_eq0, bI_eq1, bI_01, Classical.not_not, or_em, false_and, and_false, hS.1, hS.2.1, hS.2.2.1, kT_102, kT_103, kT_104, kT_105, kT_106, kT_107, kT_108, kT_109, kT_110, kT_111, kT_112, kT_113, kT_114, kT_115, kT_116, kT_117, kT_118, kT_119, kT_120, nT_103, nT_104, nT_105, nT_106, nT_107, nT_108, nT_109, nT_110, nT_111, nT_112, nT_113, nT_114, nT_115, nT_116, nT_117, nT_118, nT_119, nT_120, rT_102_1, rT_102_12, rT_102_13, rT_102_14, rT_102_18, rT_102_19, rT_102_20, rT_102_21, rT_102_22, rT_102_23, rT_102_25, rT_102_26, rT_102_27, rT_102_30, rT_102_31, rT_102_32, rT_102_33, rT_102_34, c_isOneM (d := 5) (by decide) hS, c_in (d := 5) (by decide), hx, hy, hne, hnx, hls, hlt, z1, z2]
  generalize hex : lfN (hsN (σ 5) (nI s) &&& al) = x at *
  generalize hey : lfN (hsN (σ 5) (nI t) &&& al) = y at *
  generalize hr : (fun p => rsB (xI (guN σ L P s x y n al) (fun a _ => kN σ a)) (xI (guN σ L P t x y n al) (fun _ b => kN σ b)) (p / 3) (p % 3) 3) = r
  refine L_gm (M0 := M) hM hI hal haL hs ht hn xs xt hr.symm (fun M1 p x9 x10 x11 x12 x13 x14 hS1 hf1 hA1 => ?_) 9 0 M _ _ _ _ _ _ (by omega) hS (fun _ _ => rfl) (fun k hk => absurd hk (Nat.not_lt_zero k))
  have hfin : ∀ a, a < 119 → mI M1 a = mI M a := fun a ha => hf1 a (by omega)
  by_cases hi : i = -1
  · have hi' : (i = -1) = True := eq_true hi
    simp +decide only [e_170_260, e_170_262, e_170_263, e_170_266, e_170_268, e_170_271, e_170_273, e_170_274, e_170_276, e_170_277, e_170_278, e_170_281, e_170_284, e_170_285, e_170_288, e_170_290, e_170_291, e_170_294, e_170_295, ↓reduceIte, Int32.reduceAdd, Int32.reduceSub, an_0, an_1, an_2, an_3, an_4, an_5, tc_0, tc_1, tc_2, tc_3, tc_4, tc_5, tc_6, tc_7, tc_8, tc_9, tc_10, tc_11, tc_12, tc_13, tc_14, tc_15, tc_16, tc_17, tc_18, tc_19, tc_20, tc_21, tc_22, tc_23, tc_24, tc_25, tc_26, tc_27, tc_28, tc_29, tc_30, tc_31, tc_32, lcl_none, lcl_int, lcl_ref, lcl_null, lcl_long, okR_nil, okR_int, okR_ref, okR_null, okR_long, pushR_some, pushR_none, va_rf_some, va_rf_none, true_and, and_true, true_implies, false_implies, not_true_eq_false, not_false_eq_true, implies_true, bI_eq0, bI_eq1, bI_01, Classical.not_not, or_em, false_and, and_false, hi']
    exact ⟨hS1, hfin⟩
  · have hi' : (i = -1) = False := eq_false hi
    have hc9 := cnB_le r 9
    by_cases hin : 0 ≤ i ∧ i < nI (cnB r 9)
    · have hin' : (0 ≤ i ∧ i ≤ nI (cnB r 9) - 1) = True := by rw [ix_pred9 hc9]; exact eq_true hin
      obtain ⟨k, hk, rfl⟩ := of_ix (by omega) hin
      have hcl : (nI k).toNatClampNeg = k := nI_clamp (by omega)
      have hinx : inX (nI k) 9 = True := eq_true (inX_nI (by decide) (by omega))
      have hAk := hA1 k hk
      simp +decide only [e_170_260, e_170_262, e_170_263, e_170_266, e_170_268, e_170_271, e_170_273, e_170_274, e_170_276, e_170_277, e_170_278, e_170_281, e_170_284, e_170_285, e_170_288, e_170_290, e_170_291, e_170_294, e_170_295, ↓reduceIte, Int32.reduceAdd, Int32.reduceSub, an_0, an_1, an_2, an_3, an_4, an_5, tc_0, tc_1, tc_2, tc_3, tc_4, tc_5, tc_6, tc_7, tc_8, tc_9, tc_10, tc_11, tc_12, tc_13, tc_14, tc_15, tc_16, tc_17, tc_18, tc_19, tc_20, tc_21, tc_22, tc_23, tc_24, tc_25, tc_26, tc_27, tc_28, tc_29, tc_30, tc_31, tc_32, lcl_none, lcl_int, lcl_ref, lcl_null, lcl_long, okR_nil, okR_int, okR_ref, okR_null, okR_long, pushR_some, pushR_none, va_rf_some, va_rf_none, true_and, and_true, true_implies, false_implies, not_true_eq_false, not_false_eq_true, implies_true, bI_eq0, bI_eq1, bI_01, Classical.not_not, or_em, false_and, and_false, hS1.1, hS1.2.1, hS1.2.2.1, kT_102, kT_103, kT_104, kT_105, kT_106, kT_107, kT_108, kT_109, kT_110, kT_111, kT_112, kT_113, kT_114, kT_115, kT_116, kT_117, kT_118, kT_119, kT_120, nT_103, nT_104, nT_105, nT_106, nT_107, nT_108, nT_109, nT_110, nT_111, nT_112, nT_113, nT_114, nT_115, nT_116, nT_117, nT_118, nT_119, nT_120, rT_102_1, rT_102_12, rT_102_13, rT_102_14, rT_102_18, rT_102_19, rT_102_20, rT_102_21, rT_102_22, rT_102_23, rT_102_25, rT_102_26, rT_102_27, rT_102_30, rT_102_31, rT_102_32, rT_102_33, rT_102_34, c_in (d := 5) (by decide), hi', hin', hcl, hinx, hAk]
      exact ⟨hS1, hfin⟩
    · have hin' : (0 ≤ i ∧ i ≤ nI (cnB r 9) - 1) = False := by rw [ix_pred9 hc9]; exact eq_false hin
      have hz : seP r i 9 = -1 := seP_n 9 (fun k hk e => hin (by rw [e]; exact ix_nI (by omega) hk))
      rw [hz]
      simp +decide only [e_170_260, e_170_262, e_170_263, e_170_266, e_170_268, e_170_271, e_170_273, e_170_274, e_170_276, e_170_277, e_170_278, e_170_281, e_170_284, e_170_285, e_170_288, e_170_290, e_170_291, e_170_294, e_170_295, ↓reduceIte, Int32.reduceAdd, Int32.reduceSub, an_0, an_1, an_2, an_3, an_4, an_5, tc_0, tc_1, tc_2, tc_3, tc_4, tc_5, tc_6, tc_7, tc_8, tc_9, tc_10, tc_11, tc_12, tc_13, tc_14, tc_15, tc_16, tc_17, tc_18, tc_19, tc_20, tc_21, tc_22, tc_23, tc_24, tc_25, tc_26, tc_27, tc_28, tc_29, tc_30, tc_31, tc_32, lcl_none, lcl_int, lcl_ref, lcl_null, lcl_long, okR_nil, okR_int, okR_ref, okR_null, okR_long, pushR_some, pushR_none, va_rf_some, va_rf_none, true_and, and_true, true_implies, false_implies, not_true_eq_false, not_false_eq_true, implies_true, bI_eq0, bI_eq1, bI_01, Classical.not_not, or_em, false_and, and_false, hS1.1, hS1.2.1, hS1.2.2.1, kT_102, kT_103, kT_104, kT_105, kT_106, kT_107, kT_108, kT_109, kT_110, kT_111, kT_112, kT_113, kT_114, kT_115, kT_116, kT_117, kT_118, kT_119, kT_120, nT_103, nT_104, nT_105, nT_106, nT_107, nT_108, nT_109, nT_110, nT_111, nT_112, nT_113, nT_114, nT_115, nT_116, nT_117, nT_118, nT_119, nT_120, rT_102_1, rT_102_12, rT_102_13, rT_102_14, rT_102_18, rT_102_19, rT_102_20, rT_102_21, rT_102_22, rT_102_23, rT_102_25, rT_102_26, rT_102_27, rT_102_30, rT_102_31, rT_102_32, rT_102_33, rT_102_34, c_in (d := 5) (by decide), hi', hin']
      exact ⟨hS1, hfin⟩
