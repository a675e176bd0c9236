/-! fair -/
theorem fair_dv {u v : Nat} (hu : u < 2 ^ 30) (hv : v < 2 ^ 30) : ((lN u - lN v) / 1000).toInt32 = (nI u - nI v) / 1000 := by
  have e1 : (lN u).toInt = u := lN_toInt (by omega)
  have e2 : (lN v).toInt = v := lN_toInt (by omega)
  rw [← Int32.toInt_inj, Int64.toInt_toInt32, Int64.toInt_div, Int32.toInt_div, Int64.toInt_sub, e1, e2, pk_sub_toInt hu hv, Int.bmod_eq_of_le (n := (u : Int) - v) (by omega) (by omega), show (1000 : Int64).toInt = 1000 by decide, show (1000 : Int32).toInt = 1000 by decide]
  exact Int.bmod_bmod_of_dvd (by decide)
theorem cl_dec : ∀ a0 a1 a2 a3 a4 : Bool, clN (cond a0 1 0 + cond a1 2 0 + cond a2 4 0 + cond a3 8 0 + cond a4 16 0) 0 = (cond false 1 0 + cond a1 2 0 + cond a2 4 0 + cond a3 8 0 + cond a4 16 0) ∧ clN (cond a0 1 0 + cond a1 2 0 + cond a2 4 0 + cond a3 8 0 + cond a4 16 0) 1 = (cond a0 1 0 + cond false 2 0 + cond a2 4 0 + cond a3 8 0 + cond a4 16 0) ∧ clN (cond a0 1 0 + cond a1 2 0 + cond a2 4 0 + cond a3 8 0 + cond a4 16 0) 2 = (cond a0 1 0 + cond a1 2 0 + cond false 4 0 + cond a3 8 0 + cond a4 16 0) ∧ clN (cond a0 1 0 + cond a1 2 0 + cond a2 4 0 + cond a3 8 0 + cond a4 16 0) 3 = (cond a0 1 0 + cond a1 2 0 + cond a2 4 0 + cond false 8 0 + cond a4 16 0) ∧ clN (cond a0 1 0 + cond a1 2 0 + cond a2 4 0 + cond a3 8 0 + cond a4 16 0) 4 = (cond a0 1 0 + cond a1 2 0 + cond a2 4 0 + cond a3 8 0 + cond false 16 0) := by decide +kernel
theorem hs_go {S : Nat → Int32} {s : Int32} {l : Nat} (hl : l < 5) (hs : s ≠ -1) : hsN (upS S (5 + l) (-1)) s = clN (hsN S s) l := by
  have hd : decide ((-1 : Int32) = s) = false := decide_eq_false (fun z => hs z.symm)
  rw [hs_cond, hs_cond]
  obtain ⟨h0, h1, h2, h3, h4⟩ := cl_dec (decide (S 5 = s)) (decide (S 6 = s)) (decide (S 7 = s)) (decide (S 8 = s)) (decide (S 9 = s))
  match l, hl with
  | 0, _ => rw [h0]; simp [upS, hd]
  | 1, _ => rw [h1]; simp [upS, hd]
  | 2, _ => rw [h2]; simp [upS, hd]
  | 3, _ => rw [h3]; simp [upS, hd]
  | 4, _ => rw [h4]; simp [upS, hd]
theorem ha_go {S : Nat → Int32} {l : Nat} (hl : l < 5) : haN (upS S (5 + l) (-1)) = clN (haN S) l := by
  rw [ha_cond, ha_cond]
  obtain ⟨h0, h1, h2, h3, h4⟩ := cl_dec (decide (S 5 ≠ -1)) (decide (S 6 ≠ -1)) (decide (S 7 ≠ -1)) (decide (S 8 ≠ -1)) (decide (S 9 ≠ -1))
  match l, hl with
  | 0, _ => rw [h0]; simp [upS]
  | 1, _ => rw [h1]; simp [upS]
  | 2, _ => rw [h2]; simp [upS]
  | 3, _ => rw [h3]; simp [upS]
  | 4, _ => rw [h4]; simp [upS]
theorem c_letGo {d hs hd l : Nat} {b : Bool} {M : ab_M} {K : ab_Q} (hd1 : 1 ≤ d) (hS : Sh b M) (h0 : mI M 93 0 = nI hs) (h1 : mI M 93 1 = nI hd) (hs32 : hs < 32) (hd32 : hd < 32) (hl : l < 5) : EvD d 64 [.ref 93, .int (nI l)] M K = K none (wI (wI M 93 0 (nI (clN hs l))) 93 1 (nI (clN hd l))) := by
  have e1 : nI hs &&& ((1 : Int32) <<< (nI l &&& 31) ^^^ (-1)) = nI (clN hs l) := clr_nI hs hs32 l hl
  have e2 : nI hd &&& ((1 : Int32) <<< (nI l &&& 31) ^^^ (-1)) = nI (clN hd l) := clr_nI hd hd32 l hl
  rw [b_64 hd1]
  simp +decide only [e_64_0, e_64_1, e_64_1r, e_64_2, e_64_5, e_64_6, e_64_7, e_64_8, e_64_9, e_64_10, e_64_11, e_64_14, e_64_15, e_64_15r, e_64_16, e_64_19, e_64_20, e_64_21, e_64_22, e_64_23, e_64_24, e_64_25, e_64_28, ↓reduceIte, Int32.reduceAdd, Int32.reduceSub, an_0, an_1, an_2, an_3, an_4, an_5, tc_0, tc_1, tc_2, tc_3, tc_4, tc_5, tc_6, tc_7, tc_8, tc_9, tc_10, tc_11, tc_12, tc_13, tc_14, tc_15, tc_16, tc_17, tc_18, tc_19, tc_20, tc_21, tc_22, tc_23, tc_24, tc_25, tc_26, tc_27, tc_28, tc_29, tc_30, tc_31, tc_32, lcl_none, lcl_int, lcl_ref, lcl_null, lcl_long, okR_nil, okR_int, okR_ref, okR_null, okR_long, pushR_some, pushR_none, va_rf_some, va_rf_none, true_and, and_true, true_implies, false_implies, not_true_eq_false, not_false_eq_true, implies_true, bI_eq0, bI_eq1, bI_01, Classical.not_not, or_em, false_and, and_false, hS.1, hS.2.1, hS.2.2.1, hS.2.2.2.1, kT_0, kT_1, kT_2, kT_15, kT_16, kT_17, kT_18, kT_19, kT_80, kT_81, kT_82, kT_89, kT_90, kT_91, kT_92, kT_93, kT_94, kT_95, kT_96, kT_97, kT_98, kT_99, kT_100, kT_101, nT_2, nT_16, nT_17, nT_19, nT_81, nT_82, nT_90, nT_91, nT_94, nT_95, nT_97, nT_98, nT_100, nT_101, rT_0_0, rT_0_3, rT_0_4, rT_0_5, rT_0_6, rT_0_7, rT_0_8, rT_0_9, rT_0_10, rT_1_0, rT_15_0, rT_15_1, rT_18_0, rT_80_0, rT_80_1, rT_89_0, rT_89_1, rT_93_6, rT_93_7, rT_96_0, rT_96_1, rT_99_0, rT_99_1, mI_wI, mI_wJ, mI_wR, mJ_wI, mJ_wJ, mJ_wR, mR_wI, mR_wJ, mR_wR, mK_wI, mK_wJ, mK_wR, mN_wI, mN_wJ, mN_wR, mZ_wI, mZ_wJ, mZ_wR, h0, h1, e1, e2]
/-- the worth without a life -/
def wG (σ : Sg) (L P j l n : Nat) : Nat → Nat := wnN L (cfN (oqN σ) 0 0) (cfN (oqN σ) (σ 5 11) (σ 5 12)) (pvN (vN σ) (tN σ) P (clN (hsN (σ 5) (nI j)) l) (clN (haN (σ 5)) l)) n
theorem TR_go {L P j l : Nat} {σ : Sg} (hI : IV L P σ) (hj : j < P) (hl : l < 5) : TRp L P (vN σ) (oqN σ) (clN (hsN (σ 5) (nI j)) l) (clN (haN (σ 5)) l) (tN σ) := by
  obtain ⟨h1, h2, h3, h4, h5, h6, h7, h8⟩ := TR_of hI hj
  have hne : nI j ≠ -1 := nI_ne_m1 (by omega)
  refine ⟨h1, h2, h3, h4, Nat.lt_of_le_of_lt (clN_le _ _) h5, Nat.lt_of_le_of_lt (clN_le _ _) h6, ?_, h8⟩
  rw [← hs_go hl hne, ← ha_go hl]
  exact hs_ha hne
theorem wG_30 {L P j l n : Nat} {σ : Sg} (hI : IV L P σ) (hj : j < P) (hl : l < 5) (hn : n ≤ 20) : ∀ A, A < 2 ^ L → wG σ L P j l n A < 2 ^ 30 := by
  intro A hA
  obtain ⟨hL, hP5, hV, hT, hs, hd, hsd, hq⟩ := TR_go hI hj hl
  have h32 := pow_L hL
  have h := wn_le (c := cfN (oqN σ) 0 0) (cg := cfN (oqN σ) (σ 5 11) (σ 5 12)) (p := pvN (vN σ) (tN σ) P (clN (hsN (σ 5) (nI j)) l) (clN (haN (σ 5)) l)) hL (cfN_le hq) (cfN_le hq) (fun B hB => pvN_le hV hT hs hd hsd (by omega)) n A hA
  have : 999000 * n ≤ 999000 * 20 := Nat.mul_le_mul_left _ hn
  unfold wG
  omega
theorem C_fair {L P a j l n : Nat} {b : Bool} {σ : Sg} {M : ab_M} (hS : Sh b M) (hC : RC b M σ) (hI : IV L P σ) (ha : σ 5 10 = nI a) (haL : a < 2 ^ L) (hj : j < P) (hl : l < L) (hn : n ≤ 20) (hh : σ 5 (5 + l) = nI j) : EvD 20 93 [.ref 0, .int (nI l), .int (nI n)] M (fun r M1 => r = some (.int ((nI (wC σ L P j n a) - nI (wG σ L P j l n a)) / 1000)) ∧ Sh b M1 ∧ ∀ a, a < 93 ∨ 102 ≤ a → mI M1 a = mI M a) := by
  obtain ⟨hL, hP, iL, iP⟩ := IV_n hI
  have h32 := pow_L hL
  have a1 := hC.1.1.1
  have a2 := hC.1.1.2.1
  have hb := chL_lt b
  have hx : (0 ≤ nI j ∧ nI j < σ 0 1) = True := by rw [iP]; exact eq_true (ix_nI (by omega) hj)
  have hy : (0 ≤ nI l ∧ nI l < σ 0 0) = True := by rw [iL]; exact eq_true (ix_nI (by omega) hl)
  have hn0 : (nI n < 0) = False := eq_false (nI_pos (by omega))
  have hn0' : (0 ≤ nI n) = True := eq_true (nI_pos' (by omega))
  have hn20 : (nI n ≤ 20) = True := by rw [show (20 : Int32) = nI 20 from rfl, nI_leE (by omega) (by decide)]; exact eq_true hn
  have cl : (nI l).toNatClampNeg = l := nI_clamp (by omega)
  have il : inX (nI l) 5 = True := eq_true (inX_nI (by decide) (by omega))
  have h17 : mI M 17 l = nI j := (hC.2.2.1.2.1 l (by omega)).trans hh
  have hp := TR_of hI hj
  have hpg := TR_go (l := l) hI hj (by omega)
  rw [b_93 (by decide)]
  simp +decide only [e_93_0, e_93_1, e_93_4, e_93_5, e_93_8, e_93_11, e_93_13, e_93_14, e_93_15, e_93_18, e_93_19, e_93_21, e_93_24, e_93_26, e_93_27, e_93_28, e_93_31, e_93_34, e_93_35, e_93_36, e_93_37, e_93_38, e_93_41, e_93_42, e_93_45, e_93_48, e_93_50, e_93_51, e_93_52, e_93_55, e_93_56, e_93_59, e_93_60, e_93_63, e_93_64, ↓reduceIte, Int32.reduceAdd, Int32.reduceSub, an_0, an_1, an_2, an_3, an_4, an_5, tc_0, tc_1, tc_2, tc_3, tc_4, tc_5, tc_6, tc_7, tc_8, tc_9, tc_10, tc_11, tc_12, tc_13, tc_14, tc_15, tc_16, tc_17, tc_18, tc_19, tc_20, tc_21, tc_22, tc_23, tc_24, tc_25, tc_26, tc_27, tc_28, tc_29, tc_30, tc_31, tc_32, lcl_none, lcl_int, lcl_ref, lcl_null, lcl_long, okR_nil, okR_int, okR_ref, okR_null, okR_long, pushR_some, pushR_none, va_rf_some, va_rf_none, true_and, and_true, true_implies, false_implies, not_true_eq_false, not_false_eq_true, implies_true, bI_eq0, bI_eq1, bI_01, Classical.not_not, or_em, false_and, and_false, hS.1, hS.2.1, hS.2.2.1, hS.2.2.2.1, kT_0, kT_1, kT_2, kT_15, kT_16, kT_17, kT_18, kT_19, kT_80, kT_81, kT_82, kT_89, kT_90, kT_91, kT_92, kT_93, kT_94, kT_95, kT_96, kT_97, kT_98, kT_99, kT_100, kT_101, nT_2, nT_16, nT_17, nT_19, nT_81, nT_82, nT_90, nT_91, nT_94, nT_95, nT_97, nT_98, nT_100, nT_101, rT_0_0, rT_0_3, rT_0_4, rT_0_5, rT_0_6, rT_0_7, rT_0_8, rT_0_9, rT_0_10, rT_1_0, rT_15_0, rT_15_1, rT_18_0, rT_80_0, rT_80_1, rT_89_0, rT_89_1, rT_93_6, rT_93_7, rT_96_0, rT_96_1, rT_99_0, rT_99_1, chS1, chK, chR7, chK7, chN7, chR8, chK8, chN8, chR9, chK9, chN9, chR10, chK10, chN10, chR11, chK11, chN11, c_hasLife (d := 4) (by decide), c_hasSub (d := 4) (by decide), a1, a2, hx, hy, hn0, hn0', hn20, cl, il, h17]
  refine EvD_mono (c_asNow (d := 4) (by decide) hS hC hI) ?_
  rintro r M1 ⟨rfl, hS1, hT1, hf1⟩
  simp +decide only [e_93_67, e_93_68, e_93_71, e_93_72, e_93_75, e_93_76, ↓reduceIte, Int32.reduceAdd, Int32.reduceSub, an_0, an_1, an_2, an_3, an_4, an_5, tc_0, tc_1, tc_2, tc_3, tc_4, tc_5, tc_6, tc_7, tc_8, tc_9, tc_10, tc_11, tc_12, tc_13, tc_14, tc_15, tc_16, tc_17, tc_18, tc_19, tc_20, tc_21, tc_22, tc_23, tc_24, tc_25, tc_26, tc_27, tc_28, tc_29, tc_30, tc_31, tc_32, lcl_none, lcl_int, lcl_ref, lcl_null, lcl_long, okR_nil, okR_int, okR_ref, okR_null, okR_long, pushR_some, pushR_none, va_rf_some, va_rf_none, true_and, and_true, true_implies, false_implies, not_true_eq_false, not_false_eq_true, implies_true, bI_eq0, bI_eq1, bI_01, Classical.not_not, or_em, false_and, and_false, hS1.1, hS1.2.1, hS1.2.2.1, hS1.2.2.2.1, kT_0, kT_1, kT_2, kT_15, kT_16, kT_17, kT_18, kT_19, kT_80, kT_81, kT_82, kT_89, kT_90, kT_91, kT_92, kT_93, kT_94, kT_95, kT_96, kT_97, kT_98, kT_99, kT_100, kT_101, nT_2, nT_16, nT_17, nT_19, nT_81, nT_82, nT_90, nT_91, nT_94, nT_95, nT_97, nT_98, nT_100, nT_101, rT_0_0, rT_0_3, rT_0_4, rT_0_5, rT_0_6, rT_0_7, rT_0_8, rT_0_9, rT_0_10, rT_1_0, rT_15_0, rT_15_1, rT_18_0, rT_80_0, rT_80_1, rT_89_0, rT_89_1, rT_93_6, rT_93_7, rT_96_0, rT_96_1, rT_99_0, rT_99_1, chS1, chK, chR7, chK7, chN7, chR8, chK8, chN8, chR9, chK9, chN9, chR10, chK10, chN10, chR11, chK11, chN11]
  refine EvD_mono (c_look (d := 4) (by decide) hS1 hp hT1 hn) ?_
  rintro r M2 ⟨rfl, hS2, h52, hf2, hk2, hw2⟩
  have hW2 : TW b M2 L (wC σ L P j n) := ⟨hS2, h52, hw2⟩
  have hC2 : RC b M2 σ := RC_93 hC (fun a ha => by rw [hf2 a ha, hf1 a ha])
  have n3 : mI M2 15 2 = nI a := hC2.2.2.1.2.2.1.trans ha
  have t0 : mI M2 93 0 = nI (hsN (σ 5) (nI j)) := (hk2 0 (by decide)).trans hT1.2.1
  have t1 : mI M2 93 1 = nI (haN (σ 5)) := (hk2 1 (by decide)).trans hT1.2.2.1
  have hlg : ∀ K, EvD 4 64 [.ref 93, .int (nI l)] M2 K = K none (wI (wI M2 93 0 (nI (clN (hsN (σ 5) (nI j)) l))) 93 1 (nI (clN (haN (σ 5)) l))) := fun K => c_letGo (d := 4) (by decide) hS2 t0 t1 hp.2.2.2.2.1 hp.2.2.2.2.2.1 (by omega)
  simp +decide only [e_93_79, e_93_80, e_93_83, e_93_84, e_93_87, e_93_90, e_93_93, e_93_95, e_93_96, e_93_99, e_93_100, ↓reduceIte, Int32.reduceAdd, Int32.reduceSub, an_0, an_1, an_2, an_3, an_4, an_5, tc_0, tc_1, tc_2, tc_3, tc_4, tc_5, tc_6, tc_7, tc_8, tc_9, tc_10, tc_11, tc_12, tc_13, tc_14, tc_15, tc_16, tc_17, tc_18, tc_19, tc_20, tc_21, tc_22, tc_23, tc_24, tc_25, tc_26, tc_27, tc_28, tc_29, tc_30, tc_31, tc_32, lcl_none, lcl_int, lcl_ref, lcl_null, lcl_long, okR_nil, okR_int, okR_ref, okR_null, okR_long, pushR_some, pushR_none, va_rf_some, va_rf_none, true_and, and_true, true_implies, false_implies, not_true_eq_false, not_false_eq_true, implies_true, bI_eq0, bI_eq1, bI_01, Classical.not_not, or_em, false_and, and_false, hS2.1, hS2.2.1, hS2.2.2.1, hS2.2.2.2.1, kT_0, kT_1, kT_2, kT_15, kT_16, kT_17, kT_18, kT_19, kT_80, kT_81, kT_82, kT_89, kT_90, kT_91, kT_92, kT_93, kT_94, kT_95, kT_96, kT_97, kT_98, kT_99, kT_100, kT_101, nT_2, nT_16, nT_17, nT_19, nT_81, nT_82, nT_90, nT_91, nT_94, nT_95, nT_97, nT_98, nT_100, nT_101, rT_0_0, rT_0_3, rT_0_4, rT_0_5, rT_0_6, rT_0_7, rT_0_8, rT_0_9, rT_0_10, rT_1_0, rT_15_0, rT_15_1, rT_18_0, rT_80_0, rT_80_1, rT_89_0, rT_89_1, rT_93_6, rT_93_7, rT_96_0, rT_96_1, rT_99_0, rT_99_1, chS1, chK, chR7, chK7, chN7, chR8, chK8, chN8, chR9, chK9, chN9, chR10, chK10, chN10, chR11, chK11, chN11, n3, c_worthWith (d := 4) (by decide) hW2 hL haL, hlg]
  have hT3 : TR b (wI (wI M2 93 0 (nI (clN (hsN (σ 5) (nI j)) l))) 93 1 (nI (clN (haN (σ 5)) l))) L P (vN σ) (oqN σ) (clN (hsN (σ 5) (nI j)) l) (clN (haN (σ 5)) l) (σ 5 11) (σ 5 12) (tN σ) := by
    obtain ⟨⟨q1, q2, q3, q4⟩, q5, q6, q7, q8, q9⟩ := hT1
    refine ⟨⟨?_, ?_, ?_, fun l hl => ?_⟩, ?_, ?_, ?_, ?_, ?_⟩
    · rw [mI_wI_ne (by omega), mI_wI_ne (by omega), hf2 _ (by omega)]; exact q1
    · rw [mI_wI_ne (by omega), mI_wI_ne (by omega), hf2 _ (by omega)]; exact q2
    · rw [mI_wI_ne (by omega), mI_wI_ne (by omega), hf2 _ (by omega)]; exact q3
    · rw [mI_wI_ne (by omega), mI_wI_ne (by omega), hf2 _ (by omega)]; exact q4 l hl
    · rw [mI_wI, if_neg (by decide), mI_wI, if_pos ⟨rfl, rfl⟩]
    · rw [mI_wI, if_pos ⟨rfl, rfl⟩]
    · rw [mI_wI, if_neg (by decide), mI_wI, if_neg (by decide), hk2 _ (by decide)]; exact q7
    · rw [mI_wI, if_neg (by decide), mI_wI, if_neg (by decide), hk2 _ (by decide)]; exact q8
    · rw [mI_wI, if_neg (by decide), mI_wI, if_neg (by decide), hk2 _ (by decide)]; exact q9
  have hS3 : Sh b (wI (wI M2 93 0 (nI (clN (hsN (σ 5) (nI j)) l))) 93 1 (nI (clN (haN (σ 5)) l))) := hS2
  have hf3 : ∀ a, a ≠ 93 → mI (wI (wI M2 93 0 (nI (clN (hsN (σ 5) (nI j)) l))) 93 1 (nI (clN (haN (σ 5)) l))) a = mI M a := fun a ha => by rw [mI_wI_ne ha, mI_wI_ne ha, hf2 a ha, hf1 a ha]
  generalize wI (wI M2 93 0 (nI (clN (hsN (σ 5) (nI j)) l))) 93 1 (nI (clN (haN (σ 5)) l)) = M3 at hT3 hS3 hf3 ⊢
  simp +decide only [e_93_103, e_93_104, e_93_107, e_93_108, e_93_111, e_93_112, ↓reduceIte, Int32.reduceAdd, Int32.reduceSub, an_0, an_1, an_2, an_3, an_4, an_5, tc_0, tc_1, tc_2, tc_3, tc_4, tc_5, tc_6, tc_7, tc_8, tc_9, tc_10, tc_11, tc_12, tc_13, tc_14, tc_15, tc_16, tc_17, tc_18, tc_19, tc_20, tc_21, tc_22, tc_23, tc_24, tc_25, tc_26, tc_27, tc_28, tc_29, tc_30, tc_31, tc_32, lcl_none, lcl_int, lcl_ref, lcl_null, lcl_long, okR_nil, okR_int, okR_ref, okR_null, okR_long, pushR_some, pushR_none, va_rf_some, va_rf_none, true_and, and_true, true_implies, false_implies, not_true_eq_false, not_false_eq_true, implies_true, bI_eq0, bI_eq1, bI_01, Classical.not_not, or_em, false_and, and_false, hS3.1, hS3.2.1, hS3.2.2.1, hS3.2.2.2.1, kT_0, kT_1, kT_2, kT_15, kT_16, kT_17, kT_18, kT_19, kT_80, kT_81, kT_82, kT_89, kT_90, kT_91, kT_92, kT_93, kT_94, kT_95, kT_96, kT_97, kT_98, kT_99, kT_100, kT_101, nT_2, nT_16, nT_17, nT_19, nT_81, nT_82, nT_90, nT_91, nT_94, nT_95, nT_97, nT_98, nT_100, nT_101, rT_0_0, rT_0_3, rT_0_4, rT_0_5, rT_0_6, rT_0_7, rT_0_8, rT_0_9, rT_0_10, rT_1_0, rT_15_0, rT_15_1, rT_18_0, rT_80_0, rT_80_1, rT_89_0, rT_89_1, rT_93_6, rT_93_7, rT_96_0, rT_96_1, rT_99_0, rT_99_1, chS1, chK, chR7, chK7, chN7, chR8, chK8, chN8, chR9, chK9, chN9, chR10, chK10, chN10, chR11, chK11, chN11]
  refine EvD_mono (c_look (d := 4) (by decide) hS3 hpg hT3 hn) ?_
  rintro r M4 ⟨rfl, hS4, h54, hf4, hk4, hw4⟩
  have hW4 : TW b M4 L (wG σ L P j l n) := ⟨hS4, h54, hw4⟩
  have hf5 : ∀ a, a ≠ 93 → mI M4 a = mI M a := fun a ha => by rw [hf4 a ha, hf3 a ha]
  have hC4 : RC b M4 σ := RC_93 hC hf5
  have n34 : mI M4 15 2 = nI a := hC4.2.2.1.2.2.1.trans ha
  have hdv := fair_dv (wC_30 hI hj hn a haL) (wG_30 (l := l) hI hj (by omega) hn a haL)
  simp +decide only [e_93_115, e_93_117, e_93_118, e_93_121, e_93_122, e_93_125, e_93_128, e_93_131, e_93_132, e_93_135, e_93_136, e_93_137, ↓reduceIte, Int32.reduceAdd, Int32.reduceSub, an_0, an_1, an_2, an_3, an_4, an_5, tc_0, tc_1, tc_2, tc_3, tc_4, tc_5, tc_6, tc_7, tc_8, tc_9, tc_10, tc_11, tc_12, tc_13, tc_14, tc_15, tc_16, tc_17, tc_18, tc_19, tc_20, tc_21, tc_22, tc_23, tc_24, tc_25, tc_26, tc_27, tc_28, tc_29, tc_30, tc_31, tc_32, lcl_none, lcl_int, lcl_ref, lcl_null, lcl_long, okR_nil, okR_int, okR_ref, okR_null, okR_long, pushR_some, pushR_none, va_rf_some, va_rf_none, true_and, and_true, true_implies, false_implies, not_true_eq_false, not_false_eq_true, implies_true, bI_eq0, bI_eq1, bI_01, Classical.not_not, or_em, false_and, and_false, hS4.1, hS4.2.1, hS4.2.2.1, hS4.2.2.2.1, kT_0, kT_1, kT_2, kT_15, kT_16, kT_17, kT_18, kT_19, kT_80, kT_81, kT_82, kT_89, kT_90, kT_91, kT_92, kT_93, kT_94, kT_95, kT_96, kT_97, kT_98, kT_99, kT_100, kT_101, nT_2, nT_16, nT_17, nT_19, nT_81, nT_82, nT_90, nT_91, nT_94, nT_95, nT_97, nT_98, nT_100, nT_101, rT_0_0, rT_0_3, rT_0_4, rT_0_5, rT_0_6, rT_0_7, rT_0_8, rT_0_9, rT_0_10, rT_1_0, rT_15_0, rT_15_1, rT_18_0, rT_80_0, rT_80_1, rT_89_0, rT_89_1, rT_93_6, rT_93_7, rT_96_0, rT_96_1, rT_99_0, rT_99_1, chS1, chK, chR7, chK7, chN7, chR8, chK8, chN8, chR9, chK9, chN9, chR10, chK10, chN10, chR11, chK11, chN11, n34, c_worthWith (d := 4) (by decide) hW4 hL haL, hdv]
  exact ⟨hS4, fun a ha => hf5 a (by omega)⟩
