/-! the trial: all years -/
def pvN (V T P hs hd : Nat) (A : Nat) : Nat := payN V T P (pop5 (hd &&& A)) (pop5 (hs &&& A))
theorem pop_mono : ∀ hs, hs < 32 → ∀ hd, hd < 32 → hs &&& hd = hs → ∀ A, A < 32 → pop5 (hs &&& A) ≤ pop5 (hd &&& A) := by decide +kernel
theorem pvN_le {V T P hs hd A : Nat} (hV : V ≤ 999) (hT : T ≤ 10) (h1 : hs < 32) (h2 : hd < 32) (h3 : hs &&& hd = hs) (hA : A < 32) : pvN V T P hs hd A ≤ 999 := Nat.le_trans (payN_le hT (pop_mono hs h1 hd h2 h3 A hA)) hV
def TRp (L P V : Nat) (q : Nat → Nat) (hs hd T : Nat) : Prop := L ≤ 5 ∧ P ≤ 5 ∧ V ≤ 999 ∧ T ≤ 10 ∧ hs < 32 ∧ hd < 32 ∧ hs &&& hd = hs ∧ ∀ l, l < L → q l ≤ 100
def TR (b : Bool) (M : ab_M) (L P V : Nat) (q : Nat → Nat) (hs hd : Nat) (g h : Int32) (T : Nat) : Prop := (mI M (chL b) 5 = nI L ∧ mI M (chL b) 6 = nI P ∧ mI M (chL b) 1 = nI V ∧ ∀ l, l < L → mI M (chL b + 1) l = nI (q l)) ∧ mI M 93 0 = nI hs ∧ mI M 93 1 = nI hd ∧ mI M 93 2 = g ∧ mI M 93 3 = h ∧ mI M 93 4 = nI T
theorem cfN_le {L : Nat} {q : Nat → Nat} {g h : Int32} (hq : ∀ l, l < L → q l ≤ 100) : ∀ j, j < L → cfN q g h j ≤ 100 := fun j hj => chN_le (hq j hj)
theorem min_L : ∀ L, L ≤ 5 → (if (1 : Int32) <<< (nI L &&& 31) < 32 then (1 : Int32) <<< (nI L &&& 31) else 32) = nI (2 ^ L) := by decide +kernel
theorem L_lk1 {L P V hs hd T : Nat} {b : Bool} {q : Nat → Nat} {g h n : Int32} {M0 : ab_M} {Q : ab_Q} (hp : TRp L P V q hs hd T) (hT : TR b M0 L P V q hs hd g h T) (h5 : mI M0 93 5 = nI (2 ^ L)) (hQ : ∀ M1, Sh b M1 → mI M1 = mI M0 → (∀ c, c ≠ 94 → c ≠ 95 → mJ M1 c = mJ M0 c) → (∀ A, A < 2 ^ L → mJ M1 94 A = lN (1000 * pvN V T P hs hd A) ∧ mJ M1 95 A = lN 0) → Ev 3 65 69 [some (.ref 93), some (.ref (chL b)), some (.int n), some (.int (nI (2 ^ L))), none] [] M1 Q) : ∀ m i M, i + m = 2 ^ L → Sh b M → mI M = mI M0 → (∀ c, c ≠ 94 → c ≠ 95 → mJ M c = mJ M0 c) → (∀ A, A < i → mJ M 94 A = lN (1000 * pvN V T P hs hd A) ∧ mJ M 95 A = lN 0) → Ev 3 65 17 [some (.ref 93), some (.ref (chL b)), some (.int n), some (.int (nI i)), none] [] M Q := by
  obtain ⟨hL, hP, hV, hT10, hs32, hd32, hsd, -⟩ := hp
  obtain ⟨⟨t1, t2, t3, -⟩, t4, t5, t6, t7, t8⟩ := hT
  have h32 := pow_L hL
  intro m
  induction m with
  | zero =>
    intro i M hi hS hI hG hf
    have h1 : (nI (2 ^ L) ≤ nI i) = True := by rw [nI_leE (by omega) (by omega)]; exact eq_true (by omega)
    have e5 : mI M 93 5 = nI (2 ^ L) := by rw [hI]; exact h5
    rw [e_65_17]
    simp +decide only [e_65_18, e_65_19, e_65_22, ↓reduceIte, Int32.reduceAdd, Int32.reduceSub, an_0, an_1, an_2, an_3, an_4, an_5, tc_0, tc_1, tc_2, tc_3, tc_4, tc_5, tc_6, tc_7, tc_8, tc_9, tc_10, tc_11, tc_12, tc_13, tc_14, tc_15, tc_16, tc_17, tc_18, tc_19, tc_20, tc_21, tc_22, tc_23, tc_24, tc_25, tc_26, tc_27, tc_28, tc_29, tc_30, tc_31, tc_32, lcl_none, lcl_int, lcl_ref, lcl_null, lcl_long, okR_nil, okR_int, okR_ref, okR_null, okR_long, pushR_some, pushR_none, va_rf_some, va_rf_none, true_and, and_true, true_implies, false_implies, not_true_eq_false, not_false_eq_true, implies_true, bI_eq0, bI_eq1, bI_01, Classical.not_not, or_em, false_and, and_false, hS.1, hS.2.1, hS.2.2.1, hS.2.2.2.1, kT_0, kT_1, kT_2, kT_15, kT_16, kT_17, kT_18, kT_19, kT_80, kT_81, kT_82, kT_89, kT_90, kT_91, kT_92, kT_93, kT_94, kT_95, kT_96, kT_97, kT_98, kT_99, kT_100, kT_101, nT_2, nT_16, nT_17, nT_19, nT_81, nT_82, nT_90, nT_91, nT_94, nT_95, nT_97, nT_98, nT_100, nT_101, rT_0_0, rT_0_3, rT_0_4, rT_0_5, rT_0_6, rT_0_7, rT_0_8, rT_0_9, rT_0_10, rT_1_0, rT_15_0, rT_15_1, rT_18_0, rT_80_0, rT_80_1, rT_89_0, rT_89_1, rT_93_6, rT_93_7, rT_96_0, rT_96_1, rT_99_0, rT_99_1, e5, h1]
    have e : i = 2 ^ L := by omega
    rw [e] at hf ⊢
    exact hQ M hS hI hG hf
  | succ m ih =>
    intro i M hi hS hI hG hf
    have h1 : (nI (2 ^ L) ≤ nI i) = False := by rw [nI_leE (by omega) (by omega)]; exact eq_false (by omega)
    have e5 : mI M 93 5 = nI (2 ^ L) := by rw [hI]; exact h5
    have e0 : mI M 93 0 = nI hs := by rw [hI]; exact t4
    have e1 : mI M 93 1 = nI hd := by rw [hI]; exact t5
    have e4 : mI M 93 4 = nI T := by rw [hI]; exact t8
    have hcl : (nI i).toNatClampNeg = i := nI_clamp (by omega)
    have hin : inX (nI i) 32 = True := eq_true (inX_nI (by decide) (by omega))
    have a1 : nI hs &&& nI i = nI (hs &&& i) := and_nI hs hs32 i (by omega)
    have a2 : nI hd &&& nI i = nI (hd &&& i) := and_nI hd hd32 i (by omega)
    have l1 := and_lt32 hs hs32 i (by omega)
    have l2 := and_lt32 hd hd32 i (by omega)
    have hk1 : mK M (chL b) = 1 := by rw [hS.1]; cases b <;> rfl
    have hpay : ∀ K, EvD 3 12 [.ref (chL b), .int (nI T), .int (nI (hs &&& i)), .int (nI (hd &&& i))] M K = K (some (.int (nI (pvN V T P hs hd i)))) M := fun K => by
      rw [c_pay (d := 3) (P := P) (by decide) hk1 (by rw [hI]; exact t2) hP l1 l2, hI, t3, payI_N hV hT10 hP (pop5_le _ l2)]
      rfl
    have hple := pvN_le (P := P) hV hT10 hs32 hd32 hsd (show i < 32 by omega)
    have e9 : (nI (pvN V T P hs hd i)).toInt64 = lN (pvN V T P hs hd i) := nI_l (by omega)
    have e10 : lN (pvN V T P hs hd i) * 1000 = lN (1000 * pvN V T P hs hd i) := by rw [Nat.mul_comm, ← lN_mul]; rfl
    rw [e_65_17]
    simp +decide only [e_65_18, e_65_19, e_65_22, e_65_25, e_65_26, e_65_29, e_65_30, e_65_31, e_65_32, e_65_35, e_65_36, e_65_39, e_65_40, e_65_41, e_65_42, e_65_45, e_65_46, e_65_47, e_65_50, e_65_51, e_65_54, e_65_55, e_65_56, e_65_57, e_65_60, e_65_61, e_65_62, e_65_63, e_65_66, ↓reduceIte, Int32.reduceAdd, Int32.reduceSub, an_0, an_1, an_2, an_3, an_4, an_5, tc_0, tc_1, tc_2, tc_3, tc_4, tc_5, tc_6, tc_7, tc_8, tc_9, tc_10, tc_11, tc_12, tc_13, tc_14, tc_15, tc_16, tc_17, tc_18, tc_19, tc_20, tc_21, tc_22, tc_23, tc_24, tc_25, tc_26, tc_27, tc_28, tc_29, tc_30, tc_31, tc_32, lcl_none, lcl_int, lcl_ref, lcl_null, lcl_long, okR_nil, okR_int, okR_ref, okR_null, okR_long, pushR_some, pushR_none, va_rf_some, va_rf_none, true_and, and_true, true_implies, false_implies, not_true_eq_false, not_false_eq_true, implies_true, bI_eq0, bI_eq1, bI_01, Classical.not_not, or_em, false_and, and_false, hS.1, hS.2.1, hS.2.2.1, hS.2.2.2.1, kT_0, kT_1, kT_2, kT_15, kT_16, kT_17, kT_18, kT_19, kT_80, kT_81, kT_82, kT_89, kT_90, kT_91, kT_92, kT_93, kT_94, kT_95, kT_96, kT_97, kT_98, kT_99, kT_100, kT_101, nT_2, nT_16, nT_17, nT_19, nT_81, nT_82, nT_90, nT_91, nT_94, nT_95, nT_97, nT_98, nT_100, nT_101, rT_0_0, rT_0_3, rT_0_4, rT_0_5, rT_0_6, rT_0_7, rT_0_8, rT_0_9, rT_0_10, rT_1_0, rT_15_0, rT_15_1, rT_18_0, rT_80_0, rT_80_1, rT_89_0, rT_89_1, rT_93_6, rT_93_7, rT_96_0, rT_96_1, rT_99_0, rT_99_1, chS1, chK, chR7, chK7, chN7, chR8, chK8, chN8, chR9, chK9, chN9, chR10, chK10, chN10, chR11, chK11, chN11, mI_wI, mI_wJ, mI_wR, mJ_wI, mJ_wJ, mJ_wR, mR_wI, mR_wJ, mR_wR, mK_wI, mK_wJ, mK_wR, mN_wI, mN_wJ, mN_wR, mZ_wI, mZ_wJ, mZ_wR, e5, e0, e1, e4, h1, hcl, hin, a1, a2, hpay, e9, e10, nI_1]
    refine ih (i + 1) _ (by omega) hS (by rw [← hI]; rfl) (fun c h94 h95 => by rw [← hG c h94 h95]; funext j; rw [mJ_wJ, if_neg (fun z => h95 z.1), mJ_wJ, if_neg (fun z => h94 z.1)]) (fun A hA => ?_)
    rw [mJ_wJ, mJ_wJ, mJ_wJ, mJ_wJ, if_neg (fun z => absurd z.1 (by decide))]
    by_cases e : A = i
    · rw [if_pos ⟨rfl, e⟩, if_pos ⟨rfl, e⟩, e]
      exact ⟨rfl, rfl⟩
    · rw [if_neg (fun z => e z.2), if_neg (fun z => e z.2), if_neg (fun z => e z.2)]
      exact hf A (by omega)
def stN (L : Nat) (c cg p : Nat → Nat) (n i : Nat) : Nat → Nat := if i < n then w0N L c p i else wnN L c cg p n
theorem bf_63 {L i A : Nat} {c p w : Nat → Nat} (hL : L ≤ 5) (hA : A < 2 ^ L) (hc : ∀ j, j < L → c j ≤ 100) (hp : ∀ B, B < 2 ^ L → p B ≤ 999) (hi : i ≤ 20) (hw : ∀ B, B < 2 ^ L → w B ≤ 999000 * i) : bfN c (bsN p w) L A < 2 ^ 63 := by
  have h := (wy_le hL hA hc hp hw).1
  have h5 := pop5_le A (by have := pow_L hL; omega)
  have hpw : 100 ^ pop5 A ≤ 100 ^ 5 := Nat.pow_le_pow_right (by decide) h5
  have h2 : (999000 + 999000 * i) * 100 ^ pop5 A ≤ 20979000 * 100 ^ 5 := Nat.mul_le_mul (by omega) hpw
  have h3 : bfN c (bsN p w) L A ≤ 20979000 * 100 ^ 5 := Nat.le_trans h h2
  exact Nat.lt_of_le_of_lt h3 (by decide)
theorem L_lk2 {L P V hs hd T n : Nat} {b : Bool} {q : Nat → Nat} {g h : Int32} {M0 : ab_M} {Q : ab_Q} (hp : TRp L P V q hs hd T) (hT : TR b M0 L P V q hs hd g h T) (h5 : mI M0 93 5 = nI (2 ^ L)) (hn : n ≤ 20) (hQ : ∀ M1, Sh b M1 → mI M1 = mI M0 → (∀ c, c ≠ 94 → c ≠ 95 → mJ M1 c = mJ M0 c) → (∀ A, A < 2 ^ L → mJ M1 95 A = lN (wnN L (cfN q 0 0) (cfN q g h) (pvN V T P hs hd) n A)) → Q none M1) : ∀ m i M x, lcl x = x → i + m = n → Sh b M → mI M = mI M0 → (∀ c, c ≠ 94 → c ≠ 95 → mJ M c = mJ M0 c) → (∀ A, A < 2 ^ L → mJ M 94 A = lN (1000 * pvN V T P hs hd A)) → (∀ A, A < 2 ^ L → mJ M 95 A = lN (stN L (cfN q 0 0) (cfN q g h) (pvN V T P hs hd) n i A)) → Ev 3 65 71 [some (.ref 93), some (.ref (chL b)), some (.int (nI n)), some (.int (nI (i + 1))), x] [] M Q := by
  obtain ⟨hL, hP, hV, hT10, hs32, hd32, hsd, hq⟩ := hp
  obtain ⟨⟨t1, t2, t3, tq⟩, t4, t5, t6, t7, t8⟩ := hT
  have h32 := pow_L hL
  have hple : ∀ B, B < 2 ^ L → pvN V T P hs hd B ≤ 999 := fun B hB => pvN_le hV hT10 hs32 hd32 hsd (by omega)
  intro m
  induction m with
  | zero =>
    intro i M x hx hi hS hI hG hJ hf
    have h1 : (nI n < nI (i + 1)) = True := by rw [nI_ltE (by omega) (by omega)]; exact eq_true (by omega)
    have h1' : (nI (i + 1) ≤ nI n) = False := by rw [nI_leE (by omega) (by omega)]; exact eq_false (by omega)
    rw [e_65_71]
    simp +decide only [e_65_72, e_65_73, e_65_125, ↓reduceIte, Int32.reduceAdd, Int32.reduceSub, an_0, an_1, an_2, an_3, an_4, an_5, tc_0, tc_1, tc_2, tc_3, tc_4, tc_5, tc_6, tc_7, tc_8, tc_9, tc_10, tc_11, tc_12, tc_13, tc_14, tc_15, tc_16, tc_17, tc_18, tc_19, tc_20, tc_21, tc_22, tc_23, tc_24, tc_25, tc_26, tc_27, tc_28, tc_29, tc_30, tc_31, tc_32, lcl_none, lcl_int, lcl_ref, lcl_null, lcl_long, okR_nil, okR_int, okR_ref, okR_null, okR_long, pushR_some, pushR_none, va_rf_some, va_rf_none, true_and, and_true, true_implies, false_implies, not_true_eq_false, not_false_eq_true, implies_true, bI_eq0, bI_eq1, bI_01, Classical.not_not, or_em, false_and, and_false, h1, h1']
    refine hQ M hS hI hG (fun A hA => ?_)
    rw [hf A hA]
    unfold stN
    rw [if_neg (by omega)]
  | succ m ih =>
    intro i M x hx hi hS hI hG hJ hf
    have h1 : (nI n < nI (i + 1)) = False := by rw [nI_ltE (by omega) (by omega)]; exact eq_false (by omega)
    have h1' : (nI (i + 1) ≤ nI n) = True := by rw [nI_leE (by omega) (by omega)]; exact eq_true (by omega)
    have e2 : mI M 93 2 = g := by rw [hI]; exact t6
    have e3 : mI M 93 3 = h := by rw [hI]; exact t7
    have hf' : ∀ A, A < 2 ^ L → mJ M 95 A = lN (w0N L (cfN q 0 0) (pvN V T P hs hd) i A) := fun A hA => by
      rw [hf A hA]
      unfold stN
      rw [if_pos (by omega)]
    have hw0 := w0_le (c := cfN q 0 0) hL (cfN_le hq) hple i
    rw [e_65_71]
    by_cases hlast : i + 1 = n
    · have h2 : (nI (i + 1) = nI n) = True := by rw [hlast]; exact eq_true rfl
      simp +decide only [e_65_72, e_65_73, e_65_76, e_65_77, e_65_78, e_65_81, e_65_82, e_65_85, e_65_86, e_65_88, e_65_89, e_65_90, e_65_92, e_65_95, e_65_96, e_65_99, e_65_102, e_65_103, e_65_105, e_65_108, e_65_109, e_65_112, e_65_115, e_65_116, ↓reduceIte, Int32.reduceAdd, Int32.reduceSub, an_0, an_1, an_2, an_3, an_4, an_5, tc_0, tc_1, tc_2, tc_3, tc_4, tc_5, tc_6, tc_7, tc_8, tc_9, tc_10, tc_11, tc_12, tc_13, tc_14, tc_15, tc_16, tc_17, tc_18, tc_19, tc_20, tc_21, tc_22, tc_23, tc_24, tc_25, tc_26, tc_27, tc_28, tc_29, tc_30, tc_31, tc_32, lcl_none, lcl_int, lcl_ref, lcl_null, lcl_long, okR_nil, okR_int, okR_ref, okR_null, okR_long, pushR_some, pushR_none, va_rf_some, va_rf_none, true_and, and_true, true_implies, false_implies, not_true_eq_false, not_false_eq_true, implies_true, bI_eq0, bI_eq1, bI_01, Classical.not_not, or_em, false_and, and_false, hS.1, hS.2.1, hS.2.2.1, hS.2.2.2.1, kT_0, kT_1, kT_2, kT_15, kT_16, kT_17, kT_18, kT_19, kT_80, kT_81, kT_82, kT_89, kT_90, kT_91, kT_92, kT_93, kT_94, kT_95, kT_96, kT_97, kT_98, kT_99, kT_100, kT_101, nT_2, nT_16, nT_17, nT_19, nT_81, nT_82, nT_90, nT_91, nT_94, nT_95, nT_97, nT_98, nT_100, nT_101, rT_0_0, rT_0_3, rT_0_4, rT_0_5, rT_0_6, rT_0_7, rT_0_8, rT_0_9, rT_0_10, rT_1_0, rT_15_0, rT_15_1, rT_18_0, rT_80_0, rT_80_1, rT_89_0, rT_89_1, rT_93_6, rT_93_7, rT_96_0, rT_96_1, rT_99_0, rT_99_1, chS1, chK, chR7, chK7, chN7, chR8, chK8, chN8, chR9, chK9, chN9, chR10, chK10, chN10, chR11, chK11, chN11, h1, h1', h2, e2, e3]
      refine EvD_mono (c_yearC (d := 3) (L := L) (q := q) (p := pvN V T P hs hd) (w := w0N L (cfN q 0 0) (pvN V T P hs hd) i) (by decide) hS (by rw [hI]; exact h5) hL (by rw [hI]; exact t1) (fun l hl => ⟨by rw [hI]; exact tq l hl, hq l hl⟩) hJ hf' (fun A hA => bf_63 hL hA (cfN_le hq) hple (show i ≤ 20 by omega) hw0)) ?_
      rintro r M1 ⟨rfl, hS1, hI1, hJ1, hf1⟩
      simp +decide only [e_65_119, e_65_122, ↓reduceIte, Int32.reduceAdd, Int32.reduceSub, an_0, an_1, an_2, an_3, an_4, an_5, tc_0, tc_1, tc_2, tc_3, tc_4, tc_5, tc_6, tc_7, tc_8, tc_9, tc_10, tc_11, tc_12, tc_13, tc_14, tc_15, tc_16, tc_17, tc_18, tc_19, tc_20, tc_21, tc_22, tc_23, tc_24, tc_25, tc_26, tc_27, tc_28, tc_29, tc_30, tc_31, tc_32, lcl_none, lcl_int, lcl_ref, lcl_null, lcl_long, okR_nil, okR_int, okR_ref, okR_null, okR_long, pushR_some, pushR_none, va_rf_some, va_rf_none, true_and, and_true, true_implies, false_implies, not_true_eq_false, not_false_eq_true, implies_true, bI_eq0, bI_eq1, bI_01, Classical.not_not, or_em, false_and, and_false, nI_1]
      refine ih (i + 1) M1 _ (lcl_int _) (by omega) hS1 (hI1.trans hI) (fun c h94 h95 => (hJ1 c h95).trans (hG c h94 h95)) (fun A hA => by rw [hJ1 94 (by decide)]; exact hJ A hA) (fun A hA => ?_)
      rw [hf1 A hA]
      unfold stN
      rw [if_neg (by omega), ← hlast]
      rfl
    · have h2 : (nI (i + 1) = nI n) = False := by rw [nI_eqE (by omega) (by omega)]; exact eq_false hlast
      simp +decide only [e_65_72, e_65_73, e_65_76, e_65_77, e_65_78, e_65_81, e_65_82, e_65_85, e_65_86, e_65_88, e_65_89, e_65_90, e_65_92, e_65_95, e_65_96, e_65_99, e_65_102, e_65_103, e_65_105, e_65_108, e_65_109, e_65_112, e_65_115, e_65_116, ↓reduceIte, Int32.reduceAdd, Int32.reduceSub, an_0, an_1, an_2, an_3, an_4, an_5, tc_0, tc_1, tc_2, tc_3, tc_4, tc_5, tc_6, tc_7, tc_8, tc_9, tc_10, tc_11, tc_12, tc_13, tc_14, tc_15, tc_16, tc_17, tc_18, tc_19, tc_20, tc_21, tc_22, tc_23, tc_24, tc_25, tc_26, tc_27, tc_28, tc_29, tc_30, tc_31, tc_32, lcl_none, lcl_int, lcl_ref, lcl_null, lcl_long, okR_nil, okR_int, okR_ref, okR_null, okR_long, pushR_some, pushR_none, va_rf_some, va_rf_none, true_and, and_true, true_implies, false_implies, not_true_eq_false, not_false_eq_true, implies_true, bI_eq0, bI_eq1, bI_01, Classical.not_not, or_em, false_and, and_false, hS.1, hS.2.1, hS.2.2.1, hS.2.2.2.1, kT_0, kT_1, kT_2, kT_15, kT_16, kT_17, kT_18, kT_19, kT_80, kT_81, kT_82, kT_89, kT_90, kT_91, kT_92, kT_93, kT_94, kT_95, kT_96, kT_97, kT_98, kT_99, kT_100, kT_101, nT_2, nT_16, nT_17, nT_19, nT_81, nT_82, nT_90, nT_91, nT_94, nT_95, nT_97, nT_98, nT_100, nT_101, rT_0_0, rT_0_3, rT_0_4, rT_0_5, rT_0_6, rT_0_7, rT_0_8, rT_0_9, rT_0_10, rT_1_0, rT_15_0, rT_15_1, rT_18_0, rT_80_0, rT_80_1, rT_89_0, rT_89_1, rT_93_6, rT_93_7, rT_96_0, rT_96_1, rT_99_0, rT_99_1, chS1, chK, chR7, chK7, chN7, chR8, chK8, chN8, chR9, chK9, chN9, chR10, chK10, chN10, chR11, chK11, chN11, h1, h1', h2]
      refine EvD_mono (c_yearC (d := 3) (L := L) (q := q) (p := pvN V T P hs hd) (w := w0N L (cfN q 0 0) (pvN V T P hs hd) i) (by decide) hS (by rw [hI]; exact h5) hL (by rw [hI]; exact t1) (fun l hl => ⟨by rw [hI]; exact tq l hl, hq l hl⟩) hJ hf' (fun A hA => bf_63 hL hA (cfN_le hq) hple (show i ≤ 20 by omega) hw0)) ?_
      rintro r M1 ⟨rfl, hS1, hI1, hJ1, hf1⟩
      simp +decide only [e_65_119, e_65_122, ↓reduceIte, Int32.reduceAdd, Int32.reduceSub, an_0, an_1, an_2, an_3, an_4, an_5, tc_0, tc_1, tc_2, tc_3, tc_4, tc_5, tc_6, tc_7, tc_8, tc_9, tc_10, tc_11, tc_12, tc_13, tc_14, tc_15, tc_16, tc_17, tc_18, tc_19, tc_20, tc_21, tc_22, tc_23, tc_24, tc_25, tc_26, tc_27, tc_28, tc_29, tc_30, tc_31, tc_32, lcl_none, lcl_int, lcl_ref, lcl_null, lcl_long, okR_nil, okR_int, okR_ref, okR_null, okR_long, pushR_some, pushR_none, va_rf_some, va_rf_none, true_and, and_true, true_implies, false_implies, not_true_eq_false, not_false_eq_true, implies_true, bI_eq0, bI_eq1, bI_01, Classical.not_not, or_em, false_and, and_false, nI_1]
      refine ih (i + 1) M1 _ (lcl_int _) (by omega) hS1 (hI1.trans hI) (fun c h94 h95 => (hJ1 c h95).trans (hG c h94 h95)) (fun A hA => by rw [hJ1 94 (by decide)]; exact hJ A hA) (fun A hA => ?_)
      rw [hf1 A hA]
      unfold stN
      rw [if_pos (by omega)]
      rfl
theorem c_lookJ {d L P V hs hd T n : Nat} {b : Bool} {q : Nat → Nat} {g h : Int32} {M : ab_M} (hd4 : 4 ≤ d) (hS : Sh b M) (hp : TRp L P V q hs hd T) (hT : TR b M L P V q hs hd g h T) (hn : n ≤ 20) : EvD d 65 [.ref 93, .ref (chL b), .int (nI n)] M (fun r M1 => r = none ∧ Sh b M1 ∧ mI M1 93 5 = nI (2 ^ L) ∧ (∀ a, a ≠ 93 → mI M1 a = mI M a) ∧ (∀ k, k ≠ 5 → mI M1 93 k = mI M 93 k) ∧ (∀ c, c ≠ 94 → c ≠ 95 → mJ M1 c = mJ M c) ∧ ∀ A, A < 2 ^ L → mJ M1 95 A = lN (wnN L (cfN q 0 0) (cfN q g h) (pvN V T P hs hd) n A)) := by
  rw [b_65 hd4]
  have hb := chL_lt b
  obtain ⟨⟨t1, t2, t3, tq⟩, t4, t5, t6, t7, t8⟩ := hT
  have hmin := min_L L hp.1
  simp +decide only [e_65_0, e_65_1, e_65_3, e_65_4, e_65_5, e_65_8, e_65_9, e_65_12, e_65_15, e_65_16, ↓reduceIte, Int32.reduceAdd, Int32.reduceSub, an_0, an_1, an_2, an_3, an_4, an_5, tc_0, tc_1, tc_2, tc_3, tc_4, tc_5, tc_6, tc_7, tc_8, tc_9, tc_10, tc_11, tc_12, tc_13, tc_14, tc_15, tc_16, tc_17, tc_18, tc_19, tc_20, tc_21, tc_22, tc_23, tc_24, tc_25, tc_26, tc_27, tc_28, tc_29, tc_30, tc_31, tc_32, lcl_none, lcl_int, lcl_ref, lcl_null, lcl_long, okR_nil, okR_int, okR_ref, okR_null, okR_long, pushR_some, pushR_none, va_rf_some, va_rf_none, true_and, and_true, true_implies, false_implies, not_true_eq_false, not_false_eq_true, implies_true, bI_eq0, bI_eq1, bI_01, Classical.not_not, or_em, false_and, and_false, hS.1, hS.2.1, hS.2.2.1, hS.2.2.2.1, kT_0, kT_1, kT_2, kT_15, kT_16, kT_17, kT_18, kT_19, kT_80, kT_81, kT_82, kT_89, kT_90, kT_91, kT_92, kT_93, kT_94, kT_95, kT_96, kT_97, kT_98, kT_99, kT_100, kT_101, nT_2, nT_16, nT_17, nT_19, nT_81, nT_82, nT_90, nT_91, nT_94, nT_95, nT_97, nT_98, nT_100, nT_101, rT_0_0, rT_0_3, rT_0_4, rT_0_5, rT_0_6, rT_0_7, rT_0_8, rT_0_9, rT_0_10, rT_1_0, rT_15_0, rT_15_1, rT_18_0, rT_80_0, rT_80_1, rT_89_0, rT_89_1, rT_93_6, rT_93_7, rT_96_0, rT_96_1, rT_99_0, rT_99_1, chS1, chK, chR7, chK7, chN7, chR8, chK8, chN8, chR9, chK9, chN9, chR10, chK10, chN10, chR11, chK11, chN11, t1, hmin]
  have hT1 : TR b (wI M 93 5 (nI (2 ^ L))) L P V q hs hd g h T := ⟨⟨by rw [mI_wI_ne (by omega)]; exact t1, by rw [mI_wI_ne (by omega)]; exact t2, by rw [mI_wI_ne (by omega)]; exact t3, fun l hl => by rw [mI_wI_ne (by omega)]; exact tq l hl⟩, by rw [mI_wI, if_neg (by decide)]; exact t4, by rw [mI_wI, if_neg (by decide)]; exact t5, by rw [mI_wI, if_neg (by decide)]; exact t6, by rw [mI_wI, if_neg (by decide)]; exact t7, by rw [mI_wI, if_neg (by decide)]; exact t8⟩
  have h5 : mI (wI M 93 5 (nI (2 ^ L))) 93 5 = nI (2 ^ L) := by rw [mI_wI, if_pos ⟨rfl, rfl⟩]
  have hS1 : Sh b (wI M 93 5 (nI (2 ^ L))) := hS
  have hfr : ∀ a, a ≠ 93 → mI (wI M 93 5 (nI (2 ^ L))) a = mI M a := fun a ha => mI_wI_ne ha
  have hf5 : ∀ k, k ≠ 5 → mI (wI M 93 5 (nI (2 ^ L))) 93 k = mI M 93 k := fun k hk => by rw [mI_wI, if_neg (fun z => hk z.2)]
  have hjj : ∀ c, mJ (wI M 93 5 (nI (2 ^ L))) c = mJ M c := fun c => rfl
  generalize wI M 93 5 (nI (2 ^ L)) = M1 at hT1 h5 hS1 hfr hf5 hjj ⊢
  refine L_lk1 (M0 := M1) hp hT1 h5 (fun M2 hS2 hI2 hG2 hf2 => ?_) (2 ^ L) 0 M1 (by omega) hS1 rfl (fun _ _ _ => rfl) (fun A hA => absurd hA (Nat.not_lt_zero A))
  simp +decide only [e_65_69, e_65_70, ↓reduceIte, Int32.reduceAdd, Int32.reduceSub, an_0, an_1, an_2, an_3, an_4, an_5, tc_0, tc_1, tc_2, tc_3, tc_4, tc_5, tc_6, tc_7, tc_8, tc_9, tc_10, tc_11, tc_12, tc_13, tc_14, tc_15, tc_16, tc_17, tc_18, tc_19, tc_20, tc_21, tc_22, tc_23, tc_24, tc_25, tc_26, tc_27, tc_28, tc_29, tc_30, tc_31, tc_32, lcl_none, lcl_int, lcl_ref, lcl_null, lcl_long, okR_nil, okR_int, okR_ref, okR_null, okR_long, pushR_some, pushR_none, va_rf_some, va_rf_none, true_and, and_true, true_implies, false_implies, not_true_eq_false, not_false_eq_true, implies_true, bI_eq0, bI_eq1, bI_01, Classical.not_not, or_em, false_and, and_false]
  refine L_lk2 (M0 := M2) hp (by unfold TR at hT1 ⊢; rw [hI2]; exact hT1) (by rw [hI2]; exact h5) hn (fun M3 hS3 hI3 hG3 hf3 => ?_) n 0 M2 none lcl_none (by omega) hS2 rfl (fun _ _ _ => rfl) (fun A hA => (hf2 A hA).1) (fun A hA => ?_)
  · exact ⟨rfl, hS3, by rw [hI3, hI2]; exact h5, fun a ha => by rw [hI3, hI2]; exact hfr a ha, fun k hk => by rw [hI3, hI2]; exact hf5 k hk, fun c h94 h95 => by rw [hG3 c h94 h95, hG2 c h94 h95, hjj c], hf3⟩
  · rw [(hf2 A hA).2]
    unfold stN
    by_cases e : 0 < n
    · rw [if_pos e]; rfl
    · rw [if_neg e, show n = 0 by omega]; rfl
theorem c_look {d L P V hs hd T n : Nat} {b : Bool} {q : Nat → Nat} {g h : Int32} {M : ab_M} (hd4 : 4 ≤ d) (hS : Sh b M) (hp : TRp L P V q hs hd T) (hT : TR b M L P V q hs hd g h T) (hn : n ≤ 20) : EvD d 65 [.ref 93, .ref (chL b), .int (nI n)] M (fun r M1 => r = none ∧ Sh b M1 ∧ mI M1 93 5 = nI (2 ^ L) ∧ (∀ a, a ≠ 93 → mI M1 a = mI M a) ∧ (∀ k, k ≠ 5 → mI M1 93 k = mI M 93 k) ∧ ∀ A, A < 2 ^ L → mJ M1 95 A = lN (wnN L (cfN q 0 0) (cfN q g h) (pvN V T P hs hd) n A)) := by
  refine EvD_mono (c_lookJ hd4 hS hp hT hn) ?_
  rintro r M1 ⟨h1, h2, h3, h4, h5, -, h6⟩
  exact ⟨h1, h2, h3, h4, h5, h6⟩
