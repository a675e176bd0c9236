/-! the clauses, the model -/
theorem md_w104 {M : ab_M} {p ta nu g j : Nat} {t v : Int32} : wI (md M p ta t nu g) 104 j v = md (wI M 104 j v) p ta t nu g := md_w (Or.inl (by decide))
theorem md_w105 {M : ab_M} {p ta nu g j : Nat} {t v : Int32} : wI (md M p ta t nu g) 105 j v = md (wI M 105 j v) p ta t nu g := md_w (Or.inl (by decide))
theorem md_w106 {M : ab_M} {p ta nu g j : Nat} {t v : Int32} : wI (md M p ta t nu g) 106 j v = md (wI M 106 j v) p ta t nu g := md_w (Or.inl (by decide))
theorem md_wh9 {M : ab_M} {p ta nu g : Nat} {t v : Int32} : wI (md M p ta t nu g) 102 9 v = md (wI M 102 9 v) p ta t nu g := md_w (by decide)
theorem md_wh10 {M : ab_M} {p ta nu g : Nat} {t v : Int32} : wI (md M p ta t nu g) 102 10 v = md (wI M 102 10 v) p ta t nu g := md_w (by decide)
theorem md_wh11 {M : ab_M} {p ta nu g : Nat} {t v : Int32} : wI (md M p ta t nu g) 102 11 v = md (wI M 102 11 v) p ta t nu g := md_w (by decide)
theorem mK_md {M : ab_M} {p ta nu g : Nat} {t : Int32} : mK (md M p ta t nu g) = mK M := rfl
theorem mN_md {M : ab_M} {p ta nu g : Nat} {t : Int32} : mN (md M p ta t nu g) = mN M := rfl
theorem mR_md {M : ab_M} {p ta nu g : Nat} {t : Int32} : mR (md M p ta t nu g) = mR M := rfl
def FR (M0 M : ab_M) : Prop := (∀ a, a ≠ 102 → a ≠ 104 → a ≠ 105 → a ≠ 106 → mI M a = mI M0 a) ∧ ∀ j, j < 2 ∨ 11 < j → mI M 102 j = mI M0 102 j
theorem FR_r {M : ab_M} : FR M M := ⟨fun _ _ _ _ _ => rfl, fun _ _ => rfl⟩
theorem FR_t {M0 M M1 : ab_M} (h : FR M0 M) (h1 : FR M M1) : FR M0 M1 := ⟨fun a g1 g2 g3 g4 => (h1.1 a g1 g2 g3 g4).trans (h.1 a g1 g2 g3 g4), fun j hj => (h1.2 j hj).trans (h.2 j hj)⟩
theorem FR_w {M0 M : ab_M} {a j : Nat} {v : Int32} (h : FR M0 M) (ha : a = 104 ∨ a = 105 ∨ a = 106 ∨ (a = 102 ∧ 2 ≤ j ∧ j ≤ 11)) : FR M0 (wI M a j v) := by
  refine ⟨fun c g1 g2 g3 g4 => ?_, fun i hi => ?_⟩
  · rw [mI_wI_ne (by omega)]
    exact h.1 c g1 g2 g3 g4
  · rw [mI_wI, if_neg (by omega)]
    exact h.2 i hi
theorem FR_md {M0 M : ab_M} {p ta nu g : Nat} {t : Int32} (h : FR M0 M) : FR M0 (md M p ta t nu g) := FR_w (FR_w (FR_w (FR_w (FR_w h (by omega)) (by omega)) (by omega)) (by omega)) (by omega)
/-- a fault was found, the model -/
def FQ (b : Bool) (M0 M : ab_M) (kd v : Int32) : Prop := Sh b M ∧ FR M0 M ∧ mI M 102 7 = v ∧ mI M 102 8 = kd
theorem FQ_fl {b : Bool} {M0 M : ab_M} {p ta nu g : Nat} {t kd : Int32} (hS : Sh b M) (h : FR M0 M) : FQ b M0 (fl M p ta t nu g kd) kd (nI ta) := by
  unfold fl
  refine ⟨hS, FR_w (FR_w (FR_md h) (by omega)) (by omega), ?_, ?_⟩
  · rw [mI_wI, if_neg (by decide), mI_wI, if_pos ⟨rfl, rfl⟩]
  · rw [mI_wI, if_pos ⟨rfl, rfl⟩]
theorem TM_w {b : Bool} {M : ab_M} {T : Nat → Int32} {N a j : Nat} {v : Int32} (h : TM b M T N) (ha : a = 104 ∨ a = 105 ∨ a = 106 ∨ (a = 102 ∧ 2 ≤ j)) : TM b (wI M a j v) T N := ⟨h.1, by rw [mI_wI, if_neg (by omega)]; exact h.2.1, h.2.2.1, fun i hi => by rw [mI_wI_ne (by omega)]; exact h.2.2.2.1 i hi, h.2.2.2.2⟩
def poT (M : ab_M) (v1 v2 v3 v4 : Nat) : ab_M := wI (wI (wI (wI (wI M 104 0 (nI v1)) 104 1 (nI v2)) 104 2 (nI v3)) 104 3 (nI v4)) 102 9 1
set_option maxRecDepth 100000 in
theorem M_pot {p N : Nat} {b : Bool} {T : Nat → Int32} {ta nu g : Nat} {t : Int32} {M : ab_M} {Q : ab_Q} {p1 p2 p3 p4 : Nat} (hT : TM b M T N) (hp : p ≤ N) (e1 : p1 = npP T N p) (e2 : p2 = npP T N p1) (e3 : p3 = npP T N p2) (e4 : p4 = npP T N p3)
    (q1 : nkP T N p 999 ≠ 0 → ∀ M1, FQ b M M1 (nkP T N p 999) (nI (skP T N p)) → Q (some (.int 0)) M1)
    (q2 : nkP T N p 999 = 0 → nkP T N p1 10 ≠ 0 → ∀ M1, FQ b M M1 (nkP T N p1 10) (nI (skP T N p1)) → Q (some (.int 0)) M1)
    (q3 : nkP T N p 999 = 0 → nkP T N p1 10 = 0 → nkP T N p2 99 ≠ 0 → ∀ M1, FQ b M M1 (nkP T N p2 99) (nI (skP T N p2)) → Q (some (.int 0)) M1)
    (q4 : nkP T N p 999 = 0 → nkP T N p1 10 = 0 → nkP T N p2 99 = 0 → nkP T N p3 99 ≠ 0 → ∀ M1, FQ b M M1 (nkP T N p3 99) (nI (skP T N p3)) → Q (some (.int 0)) M1)
    (q5 : nkP T N p 999 = 0 → nkP T N p1 10 = 0 → nkP T N p2 99 = 0 → nkP T N p3 99 = 0 → ekP T N p4 ≠ 0 → ∀ M1, FQ b M M1 (ekP T N p4) (nI (skP T N p4)) → Q (some (.int 0)) M1)
    (q6 : nkP T N p 999 = 0 → nkP T N p1 10 = 0 → nkP T N p2 99 = 0 → nkP T N p3 99 = 0 → ekP T N p4 = 0 → ∀ ta t nu g, Q (some (.int 1)) (md (poT M (nvP T N p) (nvP T N p1) (nvP T N p2) (nvP T N p3)) (epP T N p4) ta t nu g)) : EvD 4 129 [.ref 102] (md M p ta t nu g) Q := by
  have hS := hT.1
  have hk : mK M 102 = 11 := by rw [hS.1]; rfl
  have hk4 : mK M 104 = 20 := by rw [hS.1]; rfl
  have hn4 : mN M 104 = 4 := by rw [hS.2.1]; rfl
  have hr : mR M 102 12 = some 104 := by rw [hS.2.2.1]; rfl
  have l1 := npP_le (T := T) hp
  have l2 := npP_le (T := T) (p := p1) (N := N) (by omega)
  have l3 := npP_le (T := T) (p := p2) (N := N) (by omega)
  have l4 := npP_le (T := T) (p := p3) (N := N) (by omega)
  have hT1 : TM b (wI M 104 0 (nI (nvP T N p))) T N := TM_w hT (by omega)
  have hT2 : TM b (wI (wI M 104 0 (nI (nvP T N p))) 104 1 (nI (nvP T N p1))) T N := TM_w hT1 (by omega)
  have hT3 : TM b (wI (wI (wI M 104 0 (nI (nvP T N p))) 104 1 (nI (nvP T N p1))) 104 2 (nI (nvP T N p2))) T N := TM_w hT2 (by omega)
  have hT5 : TM b (poT M (nvP T N p) (nvP T N p1) (nvP T N p2) (nvP T N p3)) T N := TM_w (TM_w hT3 (by omega)) (by omega)
  have F1 : FR M (wI M 104 0 (nI (nvP T N p))) := FR_w FR_r (by omega)
  have F2 : FR M (wI (wI M 104 0 (nI (nvP T N p))) 104 1 (nI (nvP T N p1))) := FR_w F1 (by omega)
  have F3 : FR M (wI (wI (wI M 104 0 (nI (nvP T N p))) 104 1 (nI (nvP T N p1))) 104 2 (nI (nvP T N p2))) := FR_w F2 (by omega)
  have F5 : FR M (poT M (nvP T N p) (nvP T N p1) (nvP T N p2) (nvP T N p3)) := FR_w (FR_w F3 (by omega)) (by omega)
  rw [b_129 (Nat.le_refl 4)]
  by_cases a1 : nkP T N p 999 = 0
  · have r1 : ∀ K, EvD 3 127 [.ref 102, .int 999] (md M p ta t nu g) K = K (some (.int 1)) (md M p1 (skP T N p) (-1) (nvP T N p) (ngP T N p)) := fun K => by rw [c_isNum0 (Nat.le_refl 3) hT hp a1, ← e1]
    by_cases a2 : nkP T N p1 10 = 0
    · have r2 : ∀ K, EvD 3 127 [.ref 102, .int 10] (md (wI M 104 0 (nI (nvP T N p))) p1 (skP T N p) (-1) (nvP T N p) (ngP T N p)) K = K (some (.int 1)) (md (wI M 104 0 (nI (nvP T N p))) p2 (skP T N p1) (-1) (nvP T N p1) (ngP T N p1)) := fun K => by rw [c_isNum0 (Nat.le_refl 3) hT1 (by omega) a2, ← e2]
      by_cases a3 : nkP T N p2 99 = 0
      · have r3 : ∀ K, EvD 3 127 [.ref 102, .int 99] (md (wI (wI M 104 0 (nI (nvP T N p))) 104 1 (nI (nvP T N p1))) p2 (skP T N p1) (-1) (nvP T N p1) (ngP T N p1)) K = K (some (.int 1)) (md (wI (wI M 104 0 (nI (nvP T N p))) 104 1 (nI (nvP T N p1))) p3 (skP T N p2) (-1) (nvP T N p2) (ngP T N p2)) := fun K => by rw [c_isNum0 (Nat.le_refl 3) hT2 (by omega) a3, ← e3]
        by_cases a4 : nkP T N p3 99 = 0
        · have r4 : ∀ K, EvD 3 127 [.ref 102, .int 99] (md (wI (wI (wI M 104 0 (nI (nvP T N p))) 104 1 (nI (nvP T N p1))) 104 2 (nI (nvP T N p2))) p3 (skP T N p2) (-1) (nvP T N p2) (ngP T N p2)) K = K (some (.int 1)) (md (wI (wI (wI M 104 0 (nI (nvP T N p))) 104 1 (nI (nvP T N p1))) 104 2 (nI (nvP T N p2))) p4 (skP T N p3) (-1) (nvP T N p3) (ngP T N p3)) := fun K => by rw [c_isNum0 (Nat.le_refl 3) hT3 (by omega) a4, ← e4]
          simp +decide only [e_129_0, e_129_1, e_129_2, e_129_3, e_129_4, e_129_7, e_129_8, e_129_9, e_129_12, e_129_15, e_129_18, e_129_19, e_129_20, e_129_23, e_129_25, e_129_28, e_129_30, e_129_33, e_129_36, e_129_37, e_129_38, e_129_39, e_129_42, e_129_43, e_129_44, e_129_47, e_129_48, e_129_51, e_129_54, e_129_55, e_129_56, e_129_59, e_129_60, ↓reduceIte, Int32.reduceAdd, Int32.reduceSub, an_0, an_1, an_2, an_3, an_4, an_5, tc_0, tc_1, tc_2, tc_3, tc_4, tc_5, tc_6, tc_7, tc_8, tc_9, tc_10, tc_11, tc_12, tc_13, tc_14, tc_15, tc_16, tc_17, tc_18, tc_19, tc_20, tc_21, tc_22, tc_23, tc_24, tc_25, tc_26, tc_27, tc_28, tc_29, tc_30, tc_31, tc_32, lcl_none, lcl_int, lcl_ref, lcl_null, lcl_long, okR_nil, okR_int, okR_ref, okR_null, okR_long, pushR_some, pushR_none, va_rf_some, va_rf_none, true_and, and_true, true_implies, false_implies, not_true_eq_false, not_false_eq_true, implies_true, bI_eq0, bI_eq1, bI_01, Classical.not_not, or_em, false_and, and_false, mK_md, mN_md, mR_md, mK_wI, mN_wI, mR_wI, hk, hk4, hn4, hr, r1, r2, r3, r4, md_5, md_w104, md_wh9]
          by_cases a5 : ekP T N p4 = 0
          · show EvD 3 128 [.ref 102] (md (poT M (nvP T N p) (nvP T N p1) (nvP T N p2) (nvP T N p3)) p4 _ _ _ _) _
            rw [c_isEnd0 (Nat.le_refl 3) hT5 (by omega) a5]
            simp +decide only [e_129_63, ↓reduceIte, Int32.reduceAdd, Int32.reduceSub, an_0, an_1, an_2, an_3, an_4, an_5, tc_0, tc_1, tc_2, tc_3, tc_4, tc_5, tc_6, tc_7, tc_8, tc_9, tc_10, tc_11, tc_12, tc_13, tc_14, tc_15, tc_16, tc_17, tc_18, tc_19, tc_20, tc_21, tc_22, tc_23, tc_24, tc_25, tc_26, tc_27, tc_28, tc_29, tc_30, tc_31, tc_32, lcl_none, lcl_int, lcl_ref, lcl_null, lcl_long, okR_nil, okR_int, okR_ref, okR_null, okR_long, pushR_some, pushR_none, va_rf_some, va_rf_none, true_and, and_true, true_implies, false_implies, not_true_eq_false, not_false_eq_true, implies_true, bI_eq0, bI_eq1, bI_01, Classical.not_not, or_em, false_and, and_false]
            exact q6 a1 a2 a3 a4 a5 _ _ _ _
          · show EvD 3 128 [.ref 102] (md (poT M (nvP T N p) (nvP T N p1) (nvP T N p2) (nvP T N p3)) p4 _ _ _ _) _
            rw [c_isEnd1 (Nat.le_refl 3) hT5 (by omega) a5]
            simp +decide only [e_129_63, ↓reduceIte, Int32.reduceAdd, Int32.reduceSub, an_0, an_1, an_2, an_3, an_4, an_5, tc_0, tc_1, tc_2, tc_3, tc_4, tc_5, tc_6, tc_7, tc_8, tc_9, tc_10, tc_11, tc_12, tc_13, tc_14, tc_15, tc_16, tc_17, tc_18, tc_19, tc_20, tc_21, tc_22, tc_23, tc_24, tc_25, tc_26, tc_27, tc_28, tc_29, tc_30, tc_31, tc_32, lcl_none, lcl_int, lcl_ref, lcl_null, lcl_long, okR_nil, okR_int, okR_ref, okR_null, okR_long, pushR_some, pushR_none, va_rf_some, va_rf_none, true_and, and_true, true_implies, false_implies, not_true_eq_false, not_false_eq_true, implies_true, bI_eq0, bI_eq1, bI_01, Classical.not_not, or_em, false_and, and_false]
            exact q5 a1 a2 a3 a4 a5 _ (FQ_fl hT5.1 F5)
        · have r4 := fun K => c_isNum1 (ta := skP T N p2) (t := -1) (nu := nvP T N p2) (g := ngP T N p2) (K := K) (Nat.le_refl 3) hT3 (show p3 ≤ N by omega) a4
          simp +decide only [e_129_0, e_129_1, e_129_2, e_129_3, e_129_4, e_129_7, e_129_8, e_129_9, e_129_12, e_129_15, e_129_18, e_129_19, e_129_20, e_129_23, e_129_25, e_129_28, e_129_30, e_129_33, e_129_36, e_129_37, e_129_38, e_129_39, e_129_42, e_129_43, e_129_44, e_129_47, e_129_48, e_129_51, e_129_54, e_129_55, e_129_56, e_129_59, e_129_60, ↓reduceIte, Int32.reduceAdd, Int32.reduceSub, an_0, an_1, an_2, an_3, an_4, an_5, tc_0, tc_1, tc_2, tc_3, tc_4, tc_5, tc_6, tc_7, tc_8, tc_9, tc_10, tc_11, tc_12, tc_13, tc_14, tc_15, tc_16, tc_17, tc_18, tc_19, tc_20, tc_21, tc_22, tc_23, tc_24, tc_25, tc_26, tc_27, tc_28, tc_29, tc_30, tc_31, tc_32, lcl_none, lcl_int, lcl_ref, lcl_null, lcl_long, okR_nil, okR_int, okR_ref, okR_null, okR_long, pushR_some, pushR_none, va_rf_some, va_rf_none, true_and, and_true, true_implies, false_implies, not_true_eq_false, not_false_eq_true, implies_true, bI_eq0, bI_eq1, bI_01, Classical.not_not, or_em, false_and, and_false, mK_md, mN_md, mR_md, mK_wI, mN_wI, mR_wI, hk, hk4, hn4, hr, r1, r2, r3, r4, md_5, md_w104]
          exact q4 a1 a2 a3 a4 _ (FQ_fl hT3.1 F3)
      · have r3 := fun K => c_isNum1 (ta := skP T N p1) (t := -1) (nu := nvP T N p1) (g := ngP T N p1) (K := K) (Nat.le_refl 3) hT2 (show p2 ≤ N by omega) a3
        simp +decide only [e_129_0, e_129_1, e_129_2, e_129_3, e_129_4, e_129_7, e_129_8, e_129_9, e_129_12, e_129_15, e_129_18, e_129_19, e_129_20, e_129_23, e_129_25, e_129_28, e_129_30, e_129_33, e_129_36, e_129_37, e_129_38, e_129_39, e_129_42, e_129_43, e_129_44, e_129_47, e_129_48, e_129_51, e_129_54, e_129_55, e_129_56, e_129_59, e_129_60, ↓reduceIte, Int32.reduceAdd, Int32.reduceSub, an_0, an_1, an_2, an_3, an_4, an_5, tc_0, tc_1, tc_2, tc_3, tc_4, tc_5, tc_6, tc_7, tc_8, tc_9, tc_10, tc_11, tc_12, tc_13, tc_14, tc_15, tc_16, tc_17, tc_18, tc_19, tc_20, tc_21, tc_22, tc_23, tc_24, tc_25, tc_26, tc_27, tc_28, tc_29, tc_30, tc_31, tc_32, lcl_none, lcl_int, lcl_ref, lcl_null, lcl_long, okR_nil, okR_int, okR_ref, okR_null, okR_long, pushR_some, pushR_none, va_rf_some, va_rf_none, true_and, and_true, true_implies, false_implies, not_true_eq_false, not_false_eq_true, implies_true, bI_eq0, bI_eq1, bI_01, Classical.not_not, or_em, false_and, and_false, mK_md, mN_md, mR_md, mK_wI, mN_wI, mR_wI, hk, hk4, hn4, hr, r1, r2, r3, md_5, md_w104]
        exact q3 a1 a2 a3 _ (FQ_fl hT2.1 F2)
    · have r2 := fun K => c_isNum1 (ta := skP T N p) (t := -1) (nu := nvP T N p) (g := ngP T N p) (K := K) (Nat.le_refl 3) hT1 (show p1 ≤ N by omega) a2
      simp +decide only [e_129_0, e_129_1, e_129_2, e_129_3, e_129_4, e_129_7, e_129_8, e_129_9, e_129_12, e_129_15, e_129_18, e_129_19, e_129_20, e_129_23, e_129_25, e_129_28, e_129_30, e_129_33, e_129_36, e_129_37, e_129_38, e_129_39, e_129_42, e_129_43, e_129_44, e_129_47, e_129_48, e_129_51, e_129_54, e_129_55, e_129_56, e_129_59, e_129_60, ↓reduceIte, Int32.reduceAdd, Int32.reduceSub, an_0, an_1, an_2, an_3, an_4, an_5, tc_0, tc_1, tc_2, tc_3, tc_4, tc_5, tc_6, tc_7, tc_8, tc_9, tc_10, tc_11, tc_12, tc_13, tc_14, tc_15, tc_16, tc_17, tc_18, tc_19, tc_20, tc_21, tc_22, tc_23, tc_24, tc_25, tc_26, tc_27, tc_28, tc_29, tc_30, tc_31, tc_32, lcl_none, lcl_int, lcl_ref, lcl_null, lcl_long, okR_nil, okR_int, okR_ref, okR_null, okR_long, pushR_some, pushR_none, va_rf_some, va_rf_none, true_and, and_true, true_implies, false_implies, not_true_eq_false, not_false_eq_true, implies_true, bI_eq0, bI_eq1, bI_01, Classical.not_not, or_em, false_and, and_false, mK_md, mN_md, mR_md, mK_wI, mN_wI, mR_wI, hk, hk4, hn4, hr, r1, r2, md_5, md_w104]
      exact q2 a1 a2 _ (FQ_fl hT1.1 F1)
  · have r1 := fun K => c_isNum1 (ta := ta) (t := t) (nu := nu) (g := g) (K := K) (Nat.le_refl 3) hT hp a1
    simp +decide only [e_129_0, e_129_1, e_129_2, e_129_3, e_129_4, e_129_7, e_129_8, e_129_9, e_129_12, e_129_15, e_129_18, e_129_19, e_129_20, e_129_23, e_129_25, e_129_28, e_129_30, e_129_33, e_129_36, e_129_37, e_129_38, e_129_39, e_129_42, e_129_43, e_129_44, e_129_47, e_129_48, e_129_51, e_129_54, e_129_55, e_129_56, e_129_59, e_129_60, ↓reduceIte, Int32.reduceAdd, Int32.reduceSub, an_0, an_1, an_2, an_3, an_4, an_5, tc_0, tc_1, tc_2, tc_3, tc_4, tc_5, tc_6, tc_7, tc_8, tc_9, tc_10, tc_11, tc_12, tc_13, tc_14, tc_15, tc_16, tc_17, tc_18, tc_19, tc_20, tc_21, tc_22, tc_23, tc_24, tc_25, tc_26, tc_27, tc_28, tc_29, tc_30, tc_31, tc_32, lcl_none, lcl_int, lcl_ref, lcl_null, lcl_long, okR_nil, okR_int, okR_ref, okR_null, okR_long, pushR_some, pushR_none, va_rf_some, va_rf_none, true_and, and_true, true_implies, false_implies, not_true_eq_false, not_false_eq_true, implies_true, bI_eq0, bI_eq1, bI_01, Classical.not_not, or_em, false_and, and_false, mK_md, hk, r1]
    exact q1 a1 _ (FQ_fl hS FR_r)
