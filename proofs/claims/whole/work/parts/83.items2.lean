/-! the clauses of lives and people, the model -/
def liT (M : ab_M) (n q x : Nat) : ab_M := wI (wI (wI M 105 (2 * n) (nI q)) 105 (2 * n + 1) (nI x)) 102 10 (nI (n + 1))
set_option maxRecDepth 100000 in
theorem M_lifeI {p N n : Nat} {b : Bool} {T : Nat → Int32} {ta nu g : Nat} {t : Int32} {M : ab_M} {Q : ab_Q} {p1 p2 : Nat} (hT : TM b M T N) (hp : p ≤ N) (hn : n < 5) (h10 : mI M 102 10 = nI n) (e1 : p1 = npP T N p) (e2 : p2 = npP T N p1)
    (q1 : nkP T N p 100 ≠ 0 → ∀ M1, FQ b M M1 (nkP T N p 100) (nI (skP T N p)) → Q (some (.int 0)) M1)
    (q2 : nkP T N p 100 = 0 → nkP T N p1 50 ≠ 0 → ∀ M1, FQ b M M1 (nkP T N p1 50) (nI (skP T N p1)) → Q (some (.int 0)) M1)
    (q5 : nkP T N p 100 = 0 → nkP T N p1 50 = 0 → ekP T N p2 ≠ 0 → ∀ M1, FQ b M M1 (ekP T N p2) (nI (skP T N p2)) → Q (some (.int 0)) M1)
    (q6 : nkP T N p 100 = 0 → nkP T N p1 50 = 0 → ekP T N p2 = 0 → ∀ ta t nu g, Q (some (.int 1)) (md (liT M n (nvP T N p) (nvP T N p1)) (epP T N p2) ta t nu g)) : EvD 4 130 [.ref 102] (md M p ta t nu g) Q := by
  have hS := hT.1
  have hk : mK M 102 = 11 := by rw [hS.1]; rfl
  have hk4 : mK M 105 = 20 := by rw [hS.1]; rfl
  have hn4 : mN M 105 = 10 := by rw [hS.2.1]; rfl
  have hr : mR M 102 13 = some 105 := by rw [hS.2.2.1]; rfl
  have l1 := npP_le (T := T) hp
  have l2 := npP_le (T := T) (p := p1) (N := N) (by omega)
  have hT1 : TM b (wI M 105 (2 * n) (nI (nvP T N p))) T N := TM_w hT (by omega)
  have hT5 : TM b (liT M n (nvP T N p) (nvP T N p1)) T N := TM_w (TM_w hT1 (by omega)) (by omega)
  have F1 : FR M (wI M 105 (2 * n) (nI (nvP T N p))) := FR_w FR_r (by omega)
  have F5 : FR M (liT M n (nvP T N p) (nvP T N p1)) := FR_w (FR_w F1 (by omega)) (by omega)
  have z5 : (nI n = 5) = False := by rw [show (5 : Int32) = nI 5 from rfl, nI_eqE (by omega) (by decide)]; exact eq_false (by omega)
  have i0 : (2 : Int32) * nI n + 0 = nI (2 * n) := by rw [Int32.add_zero]; exact pk_mul 2 n
  have i1 : (2 : Int32) * nI n + 1 = nI (2 * n + 1) := by rw [show (2 : Int32) * nI n = nI (2 * n) from pk_mul 2 n, nI_1]
  have c0 : (nI (2 * n)).toNatClampNeg = 2 * n := nI_clamp (by omega)
  have c1 : (nI (2 * n + 1)).toNatClampNeg = 2 * n + 1 := nI_clamp (by omega)
  have x0 : inX (nI (2 * n)) 10 = True := eq_true (inX_nI (by decide) (by omega))
  have x1 : inX (nI (2 * n + 1)) 10 = True := eq_true (inX_nI (by decide) (by omega))
  have h10' : ∀ M2 p ta t nu g, mI M2 102 10 = nI n → mI (md M2 p ta t nu g) 102 10 = nI n := fun M2 _ _ _ _ _ h => by rw [md_i (by decide)]; exact h
  have w10 : ∀ j v, mI (wI M 105 j v) 102 10 = nI n := fun j v => by rw [mI_wI_ne (by decide)]; exact h10
  have w10' : ∀ j v i w, mI (wI (wI M 105 j v) 105 i w) 102 10 = nI n := fun j v i w => by rw [mI_wI_ne (by decide)]; exact w10 j v
  rw [b_130 (Nat.le_refl 4)]
  by_cases a1 : nkP T N p 100 = 0
  · have r1 : ∀ K, EvD 3 127 [.ref 102, .int 100] (md M p ta t nu g) K = K (some (.int 1)) (md M p1 (skP T N p) (-1) (nvP T N p) (ngP T N p)) := fun K => by rw [c_isNum0 (Nat.le_refl 3) hT hp a1, ← e1]
    by_cases a2 : nkP T N p1 50 = 0
    · have r2 : ∀ K, EvD 3 127 [.ref 102, .int 50] (md (wI M 105 (2 * n) (nI (nvP T N p))) p1 (skP T N p) (-1) (nvP T N p) (ngP T N p)) K = K (some (.int 1)) (md (wI M 105 (2 * n) (nI (nvP T N p))) p2 (skP T N p1) (-1) (nvP T N p1) (ngP T N p1)) := fun K => by rw [c_isNum0 (Nat.le_refl 3) hT1 (by omega) a2, ← e2]
      simp +decide only [e_130_0, e_130_1, e_130_4, e_130_5, e_130_8, e_130_9, e_130_10, e_130_13, e_130_14, e_130_15, e_130_16, e_130_17, e_130_18, e_130_21, e_130_22, e_130_23, e_130_26, e_130_28, e_130_31, e_130_33, e_130_36, e_130_39, e_130_40, e_130_41, e_130_42, e_130_45, e_130_46, e_130_47, e_130_50, e_130_51, e_130_52, e_130_53, e_130_54, e_130_57, e_130_58, e_130_61, e_130_64, e_130_65, e_130_65r, e_130_66, e_130_69, e_130_70, e_130_71, e_130_74, e_130_75, ↓reduceIte, Int32.reduceAdd, Int32.reduceSub, an_0, an_1, an_2, an_3, an_4, an_5, tc_0, tc_1, tc_2, tc_3, tc_4, tc_5, tc_6, tc_7, tc_8, tc_9, tc_10, tc_11, tc_12, tc_13, tc_14, tc_15, tc_16, tc_17, tc_18, tc_19, tc_20, tc_21, tc_22, tc_23, tc_24, tc_25, tc_26, tc_27, tc_28, tc_29, tc_30, tc_31, tc_32, lcl_none, lcl_int, lcl_ref, lcl_null, lcl_long, okR_nil, okR_int, okR_ref, okR_null, okR_long, pushR_some, pushR_none, va_rf_some, va_rf_none, true_and, and_true, true_implies, false_implies, not_true_eq_false, not_false_eq_true, implies_true, bI_eq0, bI_eq1, bI_01, Classical.not_not, or_em, false_and, and_false, mK_md, mN_md, mR_md, mK_wI, mN_wI, mR_wI, hk, hk4, hn4, hr, h10', h10, w10, w10', z5, r1, r2, i0, i1, c0, c1, x0, x1, md_5, md_w105, md_wh10, nI_1]
      by_cases a5 : ekP T N p2 = 0
      · show EvD 3 128 [.ref 102] (md (liT M n (nvP T N p) (nvP T N p1)) p2 _ _ _ _) _
        rw [c_isEnd0 (Nat.le_refl 3) hT5 (by omega) a5]
        simp +decide only [e_130_78, ↓reduceIte, Int32.reduceAdd, Int32.reduceSub, an_0, an_1, an_2, an_3, an_4, an_5, tc_0, tc_1, tc_2, tc_3, tc_4, tc_5, tc_6, tc_7, tc_8, tc_9, tc_10, tc_11, tc_12, tc_13, tc_14, tc_15, tc_16, tc_17, tc_18, tc_19, tc_20, tc_21, tc_22, tc_23, tc_24, tc_25, tc_26, tc_27, tc_28, tc_29, tc_30, tc_31, tc_32, lcl_none, lcl_int, lcl_ref, lcl_null, lcl_long, okR_nil, okR_int, okR_ref, okR_null, okR_long, pushR_some, pushR_none, va_rf_some, va_rf_none, true_and, and_true, true_implies, false_implies, not_true_eq_false, not_false_eq_true, implies_true, bI_eq0, bI_eq1, bI_01, Classical.not_not, or_em, false_and, and_false]
        exact q6 a1 a2 a5 _ _ _ _
      · show EvD 3 128 [.ref 102] (md (liT M n (nvP T N p) (nvP T N p1)) p2 _ _ _ _) _
        rw [c_isEnd1 (Nat.le_refl 3) hT5 (by omega) a5]
        simp +decide only [e_130_78, ↓reduceIte, Int32.reduceAdd, Int32.reduceSub, an_0, an_1, an_2, an_3, an_4, an_5, tc_0, tc_1, tc_2, tc_3, tc_4, tc_5, tc_6, tc_7, tc_8, tc_9, tc_10, tc_11, tc_12, tc_13, tc_14, tc_15, tc_16, tc_17, tc_18, tc_19, tc_20, tc_21, tc_22, tc_23, tc_24, tc_25, tc_26, tc_27, tc_28, tc_29, tc_30, tc_31, tc_32, lcl_none, lcl_int, lcl_ref, lcl_null, lcl_long, okR_nil, okR_int, okR_ref, okR_null, okR_long, pushR_some, pushR_none, va_rf_some, va_rf_none, true_and, and_true, true_implies, false_implies, not_true_eq_false, not_false_eq_true, implies_true, bI_eq0, bI_eq1, bI_01, Classical.not_not, or_em, false_and, and_false]
        exact q5 a1 a2 a5 _ (FQ_fl hT5.1 F5)
    · have r2 := fun K => c_isNum1 (ta := skP T N p) (t := -1) (nu := nvP T N p) (g := ngP T N p) (K := K) (Nat.le_refl 3) hT1 (show p1 ≤ N by omega) a2
      simp +decide only [e_130_0, e_130_1, e_130_4, e_130_5, e_130_8, e_130_9, e_130_10, e_130_13, e_130_14, e_130_15, e_130_16, e_130_17, e_130_18, e_130_21, e_130_22, e_130_23, e_130_26, e_130_28, e_130_31, e_130_33, e_130_36, e_130_39, e_130_40, e_130_41, e_130_42, e_130_45, e_130_46, e_130_47, e_130_50, e_130_51, e_130_52, e_130_53, e_130_54, e_130_57, e_130_58, e_130_61, e_130_64, e_130_65, e_130_65r, e_130_66, e_130_69, e_130_70, e_130_71, e_130_74, e_130_75, ↓reduceIte, Int32.reduceAdd, Int32.reduceSub, an_0, an_1, an_2, an_3, an_4, an_5, tc_0, tc_1, tc_2, tc_3, tc_4, tc_5, tc_6, tc_7, tc_8, tc_9, tc_10, tc_11, tc_12, tc_13, tc_14, tc_15, tc_16, tc_17, tc_18, tc_19, tc_20, tc_21, tc_22, tc_23, tc_24, tc_25, tc_26, tc_27, tc_28, tc_29, tc_30, tc_31, tc_32, lcl_none, lcl_int, lcl_ref, lcl_null, lcl_long, okR_nil, okR_int, okR_ref, okR_null, okR_long, pushR_some, pushR_none, va_rf_some, va_rf_none, true_and, and_true, true_implies, false_implies, not_true_eq_false, not_false_eq_true, implies_true, bI_eq0, bI_eq1, bI_01, Classical.not_not, or_em, false_and, and_false, mK_md, mN_md, mR_md, mK_wI, mN_wI, mR_wI, hk, hk4, hn4, hr, h10', h10, w10, z5, r1, r2, i0, c0, x0, md_5, md_w105]
      exact q2 a1 a2 _ (FQ_fl hT1.1 F1)
  · have r1 := fun K => c_isNum1 (ta := ta) (t := t) (nu := nu) (g := g) (K := K) (Nat.le_refl 3) hT hp a1
    simp +decide only [e_130_0, e_130_1, e_130_4, e_130_5, e_130_8, e_130_9, e_130_10, e_130_13, e_130_14, e_130_15, e_130_16, e_130_17, e_130_18, e_130_21, e_130_22, e_130_23, e_130_26, e_130_28, e_130_31, e_130_33, e_130_36, e_130_39, e_130_40, e_130_41, e_130_42, e_130_45, e_130_46, e_130_47, e_130_50, e_130_51, e_130_52, e_130_53, e_130_54, e_130_57, e_130_58, e_130_61, e_130_64, e_130_65, e_130_65r, e_130_66, e_130_69, e_130_70, e_130_71, e_130_74, e_130_75, ↓reduceIte, Int32.reduceAdd, Int32.reduceSub, an_0, an_1, an_2, an_3, an_4, an_5, tc_0, tc_1, tc_2, tc_3, tc_4, tc_5, tc_6, tc_7, tc_8, tc_9, tc_10, tc_11, tc_12, tc_13, tc_14, tc_15, tc_16, tc_17, tc_18, tc_19, tc_20, tc_21, tc_22, tc_23, tc_24, tc_25, tc_26, tc_27, tc_28, tc_29, tc_30, tc_31, tc_32, lcl_none, lcl_int, lcl_ref, lcl_null, lcl_long, okR_nil, okR_int, okR_ref, okR_null, okR_long, pushR_some, pushR_none, va_rf_some, va_rf_none, true_and, and_true, true_implies, false_implies, not_true_eq_false, not_false_eq_true, implies_true, bI_eq0, bI_eq1, bI_01, Classical.not_not, or_em, false_and, and_false, mK_md, hk, h10', h10, z5, r1]
    exact q1 a1 _ (FQ_fl hS FR_r)
theorem M_lifeI5 {p : Nat} {b : Bool} {ta nu g : Nat} {t : Int32} {M : ab_M} {Q : ab_Q} (hS : Sh b M) (h10 : mI M 102 10 = 5) (q : ∀ M1, FQ b M M1 3 (nI ta) → Q (some (.int 0)) M1) : EvD 4 130 [.ref 102] (md M p ta t nu g) Q := by
  have hk : mK M 102 = 11 := by rw [hS.1]; rfl
  have h10' : mI (md M p ta t nu g) 102 10 = 5 := by rw [md_i (by decide)]; exact h10
  rw [b_130 (Nat.le_refl 4)]
  simp +decide only [e_130_0, e_130_1, e_130_4, e_130_5, e_130_8, e_130_9, e_130_10, e_130_13, ↓reduceIte, Int32.reduceAdd, Int32.reduceSub, an_0, an_1, an_2, an_3, an_4, an_5, tc_0, tc_1, tc_2, tc_3, tc_4, tc_5, tc_6, tc_7, tc_8, tc_9, tc_10, tc_11, tc_12, tc_13, tc_14, tc_15, tc_16, tc_17, tc_18, tc_19, tc_20, tc_21, tc_22, tc_23, tc_24, tc_25, tc_26, tc_27, tc_28, tc_29, tc_30, tc_31, tc_32, lcl_none, lcl_int, lcl_ref, lcl_null, lcl_long, okR_nil, okR_int, okR_ref, okR_null, okR_long, pushR_some, pushR_none, va_rf_some, va_rf_none, true_and, and_true, true_implies, false_implies, not_true_eq_false, not_false_eq_true, implies_true, bI_eq0, bI_eq1, bI_01, Classical.not_not, or_em, false_and, and_false, mK_md, hk, h10', c_fails (d := 3) (by decide) hS]
  exact q _ (FQ_fl hS FR_r)
def hoF (D : Nat → Nat → Int32) : Nat → Nat → Int32
  | 0, _ => -1
  | m + 1, l => if D 6 m = nI l then nI m else hoF D m l
theorem hoF_m1 {D : Nat → Nat → Int32} {l : Nat} : ∀ m, m < 2 ^ 31 → ((hoF D m l = -1) ↔ ∀ j, j < m → D 6 j ≠ nI l) := by
  intro m
  induction m with
  | zero => intro _; exact ⟨fun _ j hj => absurd hj (Nat.not_lt_zero j), fun _ => rfl⟩
  | succ m ih =>
    intro hm
    unfold hoF
    by_cases h : D 6 m = nI l
    · rw [if_pos h]
      exact ⟨fun z => absurd z (nI_ne_m1 (by omega)), fun z => absurd h (z m (by omega))⟩
    · rw [if_neg h, ih (by omega)]
      refine ⟨fun z j hj => ?_, fun z j hj => z j (by omega)⟩
      by_cases e : j = m
      · rw [e]; exact h
      · exact z j (by omega)
theorem L_chk {p m : Nat} {b : Bool} {D : Nat → Nat → Int32} {ta nu g : Nat} {t i3 : Int32} {M : ab_M} {Q : ab_Q} (hS : Sh b M) (hm : m < 5) (h11 : mI M 102 11 = nI m) (hD : ∀ j, j < m → mI M 106 (3 * j + 2) = D 6 j) (hno : (∀ j, j < m → D 6 j ≠ nI nu) → Ev 3 131 120 [some (.ref 102), some (.int i3), some (.int (nI m))] [] (md M p ta t nu g) Q) (hyes : ¬ (∀ j, j < m → D 6 j ≠ nI nu) → Q (some (.int 0)) (fl M p ta t nu g 4)) : ∀ q i, i + q = m → (∀ j, j < i → D 6 j ≠ nI nu) → Ev 3 131 83 [some (.ref 102), some (.int i3), some (.int (nI i))] [] (md M p ta t nu g) Q := by
  have hk : mK M 102 = 11 := by rw [hS.1]; rfl
  have hk6 : mK M 106 = 20 := by rw [hS.1]; rfl
  have hn6 : mN M 106 = 15 := by rw [hS.2.1]; rfl
  have hr : mR M 102 14 = some 106 := by rw [hS.2.2.1]; rfl
  have e11 : mI (md M p ta t nu g) 102 11 = nI m := by rw [md_i (by decide)]; exact h11
  intro q
  induction q with
  | zero =>
    intro i hi hlow
    have h1 : (nI m ≤ nI i) = True := by rw [nI_leE (by omega) (by omega)]; exact eq_true (by omega)
    rw [e_131_83]
    simp +decide only [e_131_84, e_131_85, e_131_88, ↓reduceIte, Int32.reduceAdd, Int32.reduceSub, an_0, an_1, an_2, an_3, an_4, an_5, tc_0, tc_1, tc_2, tc_3, tc_4, tc_5, tc_6, tc_7, tc_8, tc_9, tc_10, tc_11, tc_12, tc_13, tc_14, tc_15, tc_16, tc_17, tc_18, tc_19, tc_20, tc_21, tc_22, tc_23, tc_24, tc_25, tc_26, tc_27, tc_28, tc_29, tc_30, tc_31, tc_32, lcl_none, lcl_int, lcl_ref, lcl_null, lcl_long, okR_nil, okR_int, okR_ref, okR_null, okR_long, pushR_some, pushR_none, va_rf_some, va_rf_none, true_and, and_true, true_implies, false_implies, not_true_eq_false, not_false_eq_true, implies_true, bI_eq0, bI_eq1, bI_01, Classical.not_not, or_em, false_and, and_false, mK_md, hk, e11, h1]
    rw [show i = m by omega] at hlow ⊢
    exact hno hlow
  | succ q ih =>
    intro i hi hlow
    have h1 : (nI m ≤ nI i) = False := by rw [nI_leE (by omega) (by omega)]; exact eq_false (by omega)
    have ix : (3 : Int32) * nI i + 2 = nI (3 * i + 2) := by rw [show (3 : Int32) * nI i = nI (3 * i) from pk_mul 3 i]; exact nI_add (3 * i) 2
    have hcl : (nI (3 * i + 2)).toNatClampNeg = 3 * i + 2 := nI_clamp (by omega)
    have hin : inX (nI (3 * i + 2)) 15 = True := eq_true (inX_nI (by decide) (by omega))
    have hd : mI (md M p ta t nu g) 106 (3 * i + 2) = D 6 i := by rw [md_o (by decide)]; exact hD i (by omega)
    rw [e_131_83]
    by_cases he : D 6 i = nI nu
    · have he' : (D 6 i = nI nu) = True := eq_true he
      simp +decide only [e_131_84, e_131_85, e_131_88, e_131_91, e_131_92, e_131_95, e_131_96, e_131_97, e_131_98, e_131_99, e_131_100, e_131_101, e_131_102, e_131_105, e_131_108, e_131_109, e_131_110, e_131_113, ↓reduceIte, Int32.reduceAdd, Int32.reduceSub, an_0, an_1, an_2, an_3, an_4, an_5, tc_0, tc_1, tc_2, tc_3, tc_4, tc_5, tc_6, tc_7, tc_8, tc_9, tc_10, tc_11, tc_12, tc_13, tc_14, tc_15, tc_16, tc_17, tc_18, tc_19, tc_20, tc_21, tc_22, tc_23, tc_24, tc_25, tc_26, tc_27, tc_28, tc_29, tc_30, tc_31, tc_32, lcl_none, lcl_int, lcl_ref, lcl_null, lcl_long, okR_nil, okR_int, okR_ref, okR_null, okR_long, pushR_some, pushR_none, va_rf_some, va_rf_none, true_and, and_true, true_implies, false_implies, not_true_eq_false, not_false_eq_true, implies_true, bI_eq0, bI_eq1, bI_01, Classical.not_not, or_em, false_and, and_false, mK_md, mN_md, mR_md, hk, hk6, hn6, hr, e11, h1, ix, hcl, hin, hd, md_5, he', c_fails (d := 3) (by decide) hS]
      exact hyes (fun z => z i (by omega) he)
    · have he' : (D 6 i = nI nu) = False := eq_false he
      simp +decide only [e_131_84, e_131_85, e_131_88, e_131_91, e_131_92, e_131_95, e_131_96, e_131_97, e_131_98, e_131_99, e_131_100, e_131_101, e_131_102, e_131_105, e_131_108, e_131_109, e_131_110, e_131_113, e_131_114, e_131_117, ↓reduceIte, Int32.reduceAdd, Int32.reduceSub, an_0, an_1, an_2, an_3, an_4, an_5, tc_0, tc_1, tc_2, tc_3, tc_4, tc_5, tc_6, tc_7, tc_8, tc_9, tc_10, tc_11, tc_12, tc_13, tc_14, tc_15, tc_16, tc_17, tc_18, tc_19, tc_20, tc_21, tc_22, tc_23, tc_24, tc_25, tc_26, tc_27, tc_28, tc_29, tc_30, tc_31, tc_32, lcl_none, lcl_int, lcl_ref, lcl_null, lcl_long, okR_nil, okR_int, okR_ref, okR_null, okR_long, pushR_some, pushR_none, va_rf_some, va_rf_none, true_and, and_true, true_implies, false_implies, not_true_eq_false, not_false_eq_true, implies_true, bI_eq0, bI_eq1, bI_01, Classical.not_not, or_em, false_and, and_false, mK_md, mN_md, mR_md, hk, hk6, hn6, hr, e11, h1, ix, hcl, hin, hd, md_5, he', nI_1]
      refine ih (i + 1) (by omega) (fun j hj => ?_)
      by_cases e : j = i
      · rw [e]; exact he
      · exact hlow j (by omega)
def suT (M : ab_M) (m u x l : Nat) : ab_M := wI (wI (wI (wI M 106 (3 * m) (nI u)) 106 (3 * m + 1) (nI x)) 106 (3 * m + 2) (nI l)) 102 11 (nI (m + 1))
set_option maxRecDepth 100000 in
theorem M_person {p N n m : Nat} {b : Bool} {T : Nat → Int32} {D : Nat → Nat → Int32} {ta nu g : Nat} {t : Int32} {M : ab_M} {Q : ab_Q} {p1 p2 p3 : Nat} (hT : TM b M T N) (hp : p ≤ N) (hm : m < 5) (h10 : mI M 102 10 = nI n) (h11 : mI M 102 11 = nI m) (hD : ∀ j, j < m → mI M 106 (3 * j + 2) = D 6 j) (e1 : p1 = npP T N p) (e2 : p2 = npP T N p1) (e3 : p3 = npP T N p2)
    (q1 : nkP T N p 999 ≠ 0 → ∀ M1, FQ b M M1 (nkP T N p 999) (nI (skP T N p)) → Q (some (.int 0)) M1)
    (q2 : nkP T N p 999 = 0 → nkP T N p1 50 ≠ 0 → ∀ M1, FQ b M M1 (nkP T N p1 50) (nI (skP T N p1)) → Q (some (.int 0)) M1)
    (q3 : nkP T N p 999 = 0 → nkP T N p1 50 = 0 → nkP T N p2 (nI n - 1) ≠ 0 → ∀ M1, FQ b M M1 (nkP T N p2 (nI n - 1)) (nI (skP T N p2)) → Q (some (.int 0)) M1)
    (q4 : nkP T N p 999 = 0 → nkP T N p1 50 = 0 → nkP T N p2 (nI n - 1) = 0 → hoF D m (nvP T N p2) ≠ -1 → ∀ M1, FQ b M M1 4 (nI (skP T N p2)) → Q (some (.int 0)) M1)
    (q5 : nkP T N p 999 = 0 → nkP T N p1 50 = 0 → nkP T N p2 (nI n - 1) = 0 → hoF D m (nvP T N p2) = -1 → ekP T N p3 ≠ 0 → ∀ M1, FQ b M M1 (ekP T N p3) (nI (skP T N p3)) → Q (some (.int 0)) M1)
    (q6 : nkP T N p 999 = 0 → nkP T N p1 50 = 0 → nkP T N p2 (nI n - 1) = 0 → hoF D m (nvP T N p2) = -1 → ekP T N p3 = 0 → ∀ ta t nu g, Q (some (.int 1)) (md (suT M m (nvP T N p) (nvP T N p1) (nvP T N p2)) (epP T N p3) ta t nu g)) : EvD 4 131 [.ref 102] (md M p ta t nu g) Q := by
  have hS := hT.1
  have hk : mK M 102 = 11 := by rw [hS.1]; rfl
  have hk4 : mK M 106 = 20 := by rw [hS.1]; rfl
  have hn4 : mN M 106 = 15 := by rw [hS.2.1]; rfl
  have hr : mR M 102 14 = some 106 := by rw [hS.2.2.1]; rfl
  have l1 := npP_le (T := T) hp
  have l2 := npP_le (T := T) (p := p1) (N := N) (by omega)
  have l3 := npP_le (T := T) (p := p2) (N := N) (by omega)
  have hT1 : TM b (wI M 106 (3 * m) (nI (nvP T N p))) T N := TM_w hT (by omega)
  have hT2 : TM b (wI (wI M 106 (3 * m) (nI (nvP T N p))) 106 (3 * m + 1) (nI (nvP T N p1))) T N := TM_w hT1 (by omega)
  have hT3 : TM b (wI (wI (wI M 106 (3 * m) (nI (nvP T N p))) 106 (3 * m + 1) (nI (nvP T N p1))) 106 (3 * m + 2) (nI (nvP T N p2))) T N := TM_w hT2 (by omega)
  have hT5 : TM b (suT M m (nvP T N p) (nvP T N p1) (nvP T N p2)) T N := TM_w hT3 (by omega)
  have F1 : FR M (wI M 106 (3 * m) (nI (nvP T N p))) := FR_w FR_r (by omega)
  have F2 : FR M (wI (wI M 106 (3 * m) (nI (nvP T N p))) 106 (3 * m + 1) (nI (nvP T N p1))) := FR_w F1 (by omega)
  have F3 : FR M (wI (wI (wI M 106 (3 * m) (nI (nvP T N p))) 106 (3 * m + 1) (nI (nvP T N p1))) 106 (3 * m + 2) (nI (nvP T N p2))) := FR_w F2 (by omega)
  have F5 : FR M (suT M m (nvP T N p) (nvP T N p1) (nvP T N p2)) := FR_w F3 (by omega)
  have z5 : (nI m = 5) = False := by rw [show (5 : Int32) = nI 5 from rfl, nI_eqE (by omega) (by decide)]; exact eq_false (by omega)
  have i3 : (3 : Int32) * nI m = nI (3 * m) := pk_mul 3 m
  have i0 : nI (3 * m) + 0 = nI (3 * m) := Int32.add_zero _
  have i2 : nI (3 * m) + 2 = nI (3 * m + 2) := nI_add (3 * m) 2
  have c0 : (nI (3 * m)).toNatClampNeg = 3 * m := nI_clamp (by omega)
  have c1 : (nI (3 * m + 1)).toNatClampNeg = 3 * m + 1 := nI_clamp (by omega)
  have c2 : (nI (3 * m + 2)).toNatClampNeg = 3 * m + 2 := nI_clamp (by omega)
  have x0 : inX (nI (3 * m)) 15 = True := eq_true (inX_nI (by decide) (by omega))
  have x1 : inX (nI (3 * m + 1)) 15 = True := eq_true (inX_nI (by decide) (by omega))
  have x2 : inX (nI (3 * m + 2)) 15 = True := eq_true (inX_nI (by decide) (by omega))
  have h11' : mI (md M p ta t nu g) 102 11 = nI m := by rw [md_i (by decide)]; exact h11
  have h10' : ∀ j v i w p ta t nu g, mI (md (wI (wI M 106 j v) 106 i w) p ta t nu g) 102 10 = nI n := fun j v i w _ _ _ _ _ => by rw [md_i (by decide), mI_wI_ne (by decide), mI_wI_ne (by decide)]; exact h10
  rw [b_131 (Nat.le_refl 4)]
  by_cases a1 : nkP T N p 999 = 0
  · have r1 : ∀ K, EvD 3 127 [.ref 102, .int 999] (md M p ta t nu g) K = K (some (.int 1)) (md M p1 (skP T N p) (-1) (nvP T N p) (ngP T N p)) := fun K => by rw [c_isNum0 (Nat.le_refl 3) hT hp a1, ← e1]
    by_cases a2 : nkP T N p1 50 = 0
    · have r2 : ∀ K, EvD 3 127 [.ref 102, .int 50] (md (wI M 106 (3 * m) (nI (nvP T N p))) p1 (skP T N p) (-1) (nvP T N p) (ngP T N p)) K = K (some (.int 1)) (md (wI M 106 (3 * m) (nI (nvP T N p))) p2 (skP T N p1) (-1) (nvP T N p1) (ngP T N p1)) := fun K => by rw [c_isNum0 (Nat.le_refl 3) hT1 (by omega) a2, ← e2]
      by_cases a3 : nkP T N p2 (nI n - 1) = 0
      · have r3 : ∀ K, EvD 3 127 [.ref 102, .int (nI n - 1)] (md (wI (wI M 106 (3 * m) (nI (nvP T N p))) 106 (3 * m + 1) (nI (nvP T N p1))) p2 (skP T N p1) (-1) (nvP T N p1) (ngP T N p1)) K = K (some (.int 1)) (md (wI (wI M 106 (3 * m) (nI (nvP T N p))) 106 (3 * m + 1) (nI (nvP T N p1))) p3 (skP T N p2) (-1) (nvP T N p2) (ngP T N p2)) := fun K => by rw [c_isNum0 (Nat.le_refl 3) hT2 (by omega) a3, ← e3]
        simp +decide only [e_131_0, e_131_1, e_131_4, e_131_5, e_131_8, e_131_9, e_131_10, e_131_13, e_131_14, e_131_15, e_131_16, e_131_19, e_131_20, e_131_21, e_131_22, e_131_23, e_131_24, e_131_25, e_131_28, e_131_29, e_131_30, e_131_33, e_131_36, e_131_39, e_131_40, e_131_41, e_131_44, e_131_46, e_131_49, e_131_50, e_131_53, e_131_54, e_131_55, e_131_58, e_131_61, e_131_62, e_131_63, e_131_64, e_131_67, e_131_68, e_131_69, e_131_70, e_131_71, e_131_74, e_131_75, e_131_78, e_131_81, e_131_82, ↓reduceIte, Int32.reduceAdd, Int32.reduceSub, an_0, an_1, an_2, an_3, an_4, an_5, tc_0, tc_1, tc_2, tc_3, tc_4, tc_5, tc_6, tc_7, tc_8, tc_9, tc_10, tc_11, tc_12, tc_13, tc_14, tc_15, tc_16, tc_17, tc_18, tc_19, tc_20, tc_21, tc_22, tc_23, tc_24, tc_25, tc_26, tc_27, tc_28, tc_29, tc_30, tc_31, tc_32, lcl_none, lcl_int, lcl_ref, lcl_null, lcl_long, okR_nil, okR_int, okR_ref, okR_null, okR_long, pushR_some, pushR_none, va_rf_some, va_rf_none, true_and, and_true, true_implies, false_implies, not_true_eq_false, not_false_eq_true, implies_true, bI_eq0, bI_eq1, bI_01, Classical.not_not, or_em, false_and, and_false, mK_md, mN_md, mR_md, mK_wI, mN_wI, mR_wI, hk, hk4, hn4, hr, h11', h10', z5, r1, r2, r3, i3, i0, i2, c0, c1, c2, x0, x1, x2, md_5, md_w106, nI_1]
        have hno := hoF_m1 (D := D) (l := nvP T N p2) m (by omega)
        have hD3 : ∀ j, j < m → mI (wI (wI (wI M 106 (3 * m) (nI (nvP T N p))) 106 (3 * m + 1) (nI (nvP T N p1))) 106 (3 * m + 2) (nI (nvP T N p2))) 106 (3 * j + 2) = D 6 j := fun j hj => by
          rw [mI_wI, if_neg (by omega), mI_wI, if_neg (by omega), mI_wI, if_neg (by omega)]
          exact hD j hj
        have h113 : mI (wI (wI (wI M 106 (3 * m) (nI (nvP T N p))) 106 (3 * m + 1) (nI (nvP T N p1))) 106 (3 * m + 2) (nI (nvP T N p2))) 102 11 = nI m := by rw [mI_wI_ne (by decide), mI_wI_ne (by decide), mI_wI_ne (by decide)]; exact h11
        refine L_chk (m := m) (D := D) hT3.1 hm h113 hD3 (fun hn2 => ?_) (fun hn2 => ?_) m 0 (by omega) (fun j hj => absurd hj (Nat.not_lt_zero j))
        · have a4 := hno.mpr hn2
          have e11 : ∀ p ta t nu g, mI (md (wI (wI (wI M 106 (3 * m) (nI (nvP T N p))) 106 (3 * m + 1) (nI (nvP T N p1))) 106 (3 * m + 2) (nI (nvP T N p2))) p ta t nu g) 102 11 = nI m := fun _ _ _ _ _ => by rw [md_i (by decide), mI_wI_ne (by decide), mI_wI_ne (by decide), mI_wI_ne (by decide)]; exact h11
          have e11' : mI (md (wI (wI (wI M 106 (3 * m) (nI (nvP T N p))) 106 (3 * m + 1) (nI (nvP T N p1))) 106 (3 * m + 2) (nI (nvP T N p2))) p3 (skP T N p2) (-1) (nvP T N p2) (ngP T N p2)) 102 11 = nI m := by rw [md_i (by decide)]; exact h113
          simp +decide only [e_131_120, e_131_121, e_131_121r, e_131_122, e_131_125, e_131_126, e_131_127, e_131_130, e_131_131, ↓reduceIte, Int32.reduceAdd, Int32.reduceSub, an_0, an_1, an_2, an_3, an_4, an_5, tc_0, tc_1, tc_2, tc_3, tc_4, tc_5, tc_6, tc_7, tc_8, tc_9, tc_10, tc_11, tc_12, tc_13, tc_14, tc_15, tc_16, tc_17, tc_18, tc_19, tc_20, tc_21, tc_22, tc_23, tc_24, tc_25, tc_26, tc_27, tc_28, tc_29, tc_30, tc_31, tc_32, lcl_none, lcl_int, lcl_ref, lcl_null, lcl_long, okR_nil, okR_int, okR_ref, okR_null, okR_long, pushR_some, pushR_none, va_rf_some, va_rf_none, true_and, and_true, true_implies, false_implies, not_true_eq_false, not_false_eq_true, implies_true, bI_eq0, bI_eq1, bI_01, Classical.not_not, or_em, false_and, and_false, mK_md, mK_wI, hk, e11', md_wh11, nI_1]
          by_cases a5 : ekP T N p3 = 0
          · show EvD 3 128 [.ref 102] (md (suT M m (nvP T N p) (nvP T N p1) (nvP T N p2)) p3 _ _ _ _) _
            rw [c_isEnd0 (Nat.le_refl 3) hT5 (by omega) a5]
            simp +decide only [e_131_134, ↓reduceIte, Int32.reduceAdd, Int32.reduceSub, an_0, an_1, an_2, an_3, an_4, an_5, tc_0, tc_1, tc_2, tc_3, tc_4, tc_5, tc_6, tc_7, tc_8, tc_9, tc_10, tc_11, tc_12, tc_13, tc_14, tc_15, tc_16, tc_17, tc_18, tc_19, tc_20, tc_21, tc_22, tc_23, tc_24, tc_25, tc_26, tc_27, tc_28, tc_29, tc_30, tc_31, tc_32, lcl_none, lcl_int, lcl_ref, lcl_null, lcl_long, okR_nil, okR_int, okR_ref, okR_null, okR_long, pushR_some, pushR_none, va_rf_some, va_rf_none, true_and, and_true, true_implies, false_implies, not_true_eq_false, not_false_eq_true, implies_true, bI_eq0, bI_eq1, bI_01, Classical.not_not, or_em, false_and, and_false]
            exact q6 a1 a2 a3 a4 a5 _ _ _ _
          · show EvD 3 128 [.ref 102] (md (suT M m (nvP T N p) (nvP T N p1) (nvP T N p2)) p3 _ _ _ _) _
            rw [c_isEnd1 (Nat.le_refl 3) hT5 (by omega) a5]
            simp +decide only [e_131_134, ↓reduceIte, Int32.reduceAdd, Int32.reduceSub, an_0, an_1, an_2, an_3, an_4, an_5, tc_0, tc_1, tc_2, tc_3, tc_4, tc_5, tc_6, tc_7, tc_8, tc_9, tc_10, tc_11, tc_12, tc_13, tc_14, tc_15, tc_16, tc_17, tc_18, tc_19, tc_20, tc_21, tc_22, tc_23, tc_24, tc_25, tc_26, tc_27, tc_28, tc_29, tc_30, tc_31, tc_32, lcl_none, lcl_int, lcl_ref, lcl_null, lcl_long, okR_nil, okR_int, okR_ref, okR_null, okR_long, pushR_some, pushR_none, va_rf_some, va_rf_none, true_and, and_true, true_implies, false_implies, not_true_eq_false, not_false_eq_true, implies_true, bI_eq0, bI_eq1, bI_01, Classical.not_not, or_em, false_and, and_false]
            exact q5 a1 a2 a3 a4 a5 _ (FQ_fl hT5.1 F5)
        · exact q4 a1 a2 a3 (fun z => hn2 (hno.mp z)) _ (FQ_fl hT3.1 F3)
      · have r3 := fun K => c_isNum1 (ta := skP T N p1) (t := -1) (nu := nvP T N p1) (g := ngP T N p1) (K := K) (Nat.le_refl 3) hT2 (show p2 ≤ N by omega) a3
        simp +decide only [e_131_0, e_131_1, e_131_4, e_131_5, e_131_8, e_131_9, e_131_10, e_131_13, e_131_14, e_131_15, e_131_16, e_131_19, e_131_20, e_131_21, e_131_22, e_131_23, e_131_24, e_131_25, e_131_28, e_131_29, e_131_30, e_131_33, e_131_36, e_131_39, e_131_40, e_131_41, e_131_44, e_131_46, e_131_49, e_131_50, e_131_53, e_131_54, e_131_55, e_131_58, e_131_61, e_131_62, e_131_63, e_131_64, e_131_67, e_131_68, e_131_69, e_131_70, e_131_71, e_131_74, e_131_75, e_131_78, e_131_81, e_131_82, ↓reduceIte, Int32.reduceAdd, Int32.reduceSub, an_0, an_1, an_2, an_3, an_4, an_5, tc_0, tc_1, tc_2, tc_3, tc_4, tc_5, tc_6, tc_7, tc_8, tc_9, tc_10, tc_11, tc_12, tc_13, tc_14, tc_15, tc_16, tc_17, tc_18, tc_19, tc_20, tc_21, tc_22, tc_23, tc_24, tc_25, tc_26, tc_27, tc_28, tc_29, tc_30, tc_31, tc_32, lcl_none, lcl_int, lcl_ref, lcl_null, lcl_long, okR_nil, okR_int, okR_ref, okR_null, okR_long, pushR_some, pushR_none, va_rf_some, va_rf_none, true_and, and_true, true_implies, false_implies, not_true_eq_false, not_false_eq_true, implies_true, bI_eq0, bI_eq1, bI_01, Classical.not_not, or_em, false_and, and_false, mK_md, mN_md, mR_md, mK_wI, mN_wI, mR_wI, hk, hk4, hn4, hr, h11', h10', z5, r1, r2, r3, i3, i0, i2, c0, c1, x0, x1, md_5, md_w106, nI_1]
        exact q3 a1 a2 a3 _ (FQ_fl hT2.1 F2)
    · have r2 := fun K => c_isNum1 (ta := skP T N p) (t := -1) (nu := nvP T N p) (g := ngP T N p) (K := K) (Nat.le_refl 3) hT1 (show p1 ≤ N by omega) a2
      simp +decide only [e_131_0, e_131_1, e_131_4, e_131_5, e_131_8, e_131_9, e_131_10, e_131_13, e_131_14, e_131_15, e_131_16, e_131_19, e_131_20, e_131_21, e_131_22, e_131_23, e_131_24, e_131_25, e_131_28, e_131_29, e_131_30, e_131_33, e_131_36, e_131_39, e_131_40, e_131_41, e_131_44, e_131_46, e_131_49, e_131_50, e_131_53, e_131_54, e_131_55, e_131_58, e_131_61, e_131_62, e_131_63, e_131_64, e_131_67, e_131_68, e_131_69, e_131_70, e_131_71, e_131_74, e_131_75, e_131_78, e_131_81, e_131_82, ↓reduceIte, Int32.reduceAdd, Int32.reduceSub, an_0, an_1, an_2, an_3, an_4, an_5, tc_0, tc_1, tc_2, tc_3, tc_4, tc_5, tc_6, tc_7, tc_8, tc_9, tc_10, tc_11, tc_12, tc_13, tc_14, tc_15, tc_16, tc_17, tc_18, tc_19, tc_20, tc_21, tc_22, tc_23, tc_24, tc_25, tc_26, tc_27, tc_28, tc_29, tc_30, tc_31, tc_32, lcl_none, lcl_int, lcl_ref, lcl_null, lcl_long, okR_nil, okR_int, okR_ref, okR_null, okR_long, pushR_some, pushR_none, va_rf_some, va_rf_none, true_and, and_true, true_implies, false_implies, not_true_eq_false, not_false_eq_true, implies_true, bI_eq0, bI_eq1, bI_01, Classical.not_not, or_em, false_and, and_false, mK_md, mN_md, mR_md, mK_wI, mN_wI, mR_wI, hk, hk4, hn4, hr, h11', z5, r1, r2, i3, i0, c0, x0, md_5, md_w106]
      exact q2 a1 a2 _ (FQ_fl hT1.1 F1)
  · have r1 := fun K => c_isNum1 (ta := ta) (t := t) (nu := nu) (g := g) (K := K) (Nat.le_refl 3) hT hp a1
    simp +decide only [e_131_0, e_131_1, e_131_4, e_131_5, e_131_8, e_131_9, e_131_10, e_131_13, e_131_14, e_131_15, e_131_16, e_131_19, e_131_20, e_131_21, e_131_22, e_131_23, e_131_24, e_131_25, e_131_28, e_131_29, e_131_30, e_131_33, e_131_36, e_131_39, e_131_40, e_131_41, e_131_44, e_131_46, e_131_49, e_131_50, e_131_53, e_131_54, e_131_55, e_131_58, e_131_61, e_131_62, e_131_63, e_131_64, e_131_67, e_131_68, e_131_69, e_131_70, e_131_71, e_131_74, e_131_75, e_131_78, e_131_81, e_131_82, ↓reduceIte, Int32.reduceAdd, Int32.reduceSub, an_0, an_1, an_2, an_3, an_4, an_5, tc_0, tc_1, tc_2, tc_3, tc_4, tc_5, tc_6, tc_7, tc_8, tc_9, tc_10, tc_11, tc_12, tc_13, tc_14, tc_15, tc_16, tc_17, tc_18, tc_19, tc_20, tc_21, tc_22, tc_23, tc_24, tc_25, tc_26, tc_27, tc_28, tc_29, tc_30, tc_31, tc_32, lcl_none, lcl_int, lcl_ref, lcl_null, lcl_long, okR_nil, okR_int, okR_ref, okR_null, okR_long, pushR_some, pushR_none, va_rf_some, va_rf_none, true_and, and_true, true_implies, false_implies, not_true_eq_false, not_false_eq_true, implies_true, bI_eq0, bI_eq1, bI_01, Classical.not_not, or_em, false_and, and_false, mK_md, hk, h11', z5, i3, r1]
    exact q1 a1 _ (FQ_fl hS FR_r)
theorem M_person5 {p : Nat} {b : Bool} {ta nu g : Nat} {t : Int32} {M : ab_M} {Q : ab_Q} (hS : Sh b M) (h11 : mI M 102 11 = 5) (q : ∀ M1, FQ b M M1 3 (nI ta) → Q (some (.int 0)) M1) : EvD 4 131 [.ref 102] (md M p ta t nu g) Q := by
  have hk : mK M 102 = 11 := by rw [hS.1]; rfl
  have h11' : mI (md M p ta t nu g) 102 11 = 5 := by rw [md_i (by decide)]; exact h11
  rw [b_131 (Nat.le_refl 4)]
  simp +decide only [e_131_0, e_131_1, e_131_4, e_131_5, e_131_8, e_131_9, e_131_10, e_131_13, ↓reduceIte, Int32.reduceAdd, Int32.reduceSub, an_0, an_1, an_2, an_3, an_4, an_5, tc_0, tc_1, tc_2, tc_3, tc_4, tc_5, tc_6, tc_7, tc_8, tc_9, tc_10, tc_11, tc_12, tc_13, tc_14, tc_15, tc_16, tc_17, tc_18, tc_19, tc_20, tc_21, tc_22, tc_23, tc_24, tc_25, tc_26, tc_27, tc_28, tc_29, tc_30, tc_31, tc_32, lcl_none, lcl_int, lcl_ref, lcl_null, lcl_long, okR_nil, okR_int, okR_ref, okR_null, okR_long, pushR_some, pushR_none, va_rf_some, va_rf_none, true_and, and_true, true_implies, false_implies, not_true_eq_false, not_false_eq_true, implies_true, bI_eq0, bI_eq1, bI_01, Classical.not_not, or_em, false_and, and_false, mK_md, hk, h11', c_fails (d := 3) (by decide) hS]
  exact q _ (FQ_fl hS FR_r)
