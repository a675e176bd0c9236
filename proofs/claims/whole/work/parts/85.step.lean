/-! one clause, on both sides -/
def CsF (T : Nat → Int32) (N p : Nat) (hp : Bool) (n m : Nat) (D : Nat → Nat → Int32) (kd v : Int32) : Prop := ∀ (b : Bool) (M : ab_M) (f : Int32) (Q : ab_Q), TT b M T N → CD b M hp n m D → (∀ M1 p', TT b M1 T N → FC b M M1 → p' ≤ N → Q none (tx M1 p' kd v)) → EvD 5 52 [.ref 1, .ref (dl b)] (tx M p 0 f) Q
def CsS (T : Nat → Int32) (N p : Nat) (hp : Bool) (n m : Nat) (D : Nat → Nat → Int32) (e : Nat) (hp2 : Bool) (n2 m2 : Nat) (D2 : Nat → Nat → Int32) : Prop := ∀ (b : Bool) (M : ab_M) (f : Int32) (Q : ab_Q), TT b M T N → CD b M hp n m D → (∀ M1, TT b M1 T N → FC b M M1 → CD b M1 hp2 n2 m2 D2 → Q none (tx M1 e 0 f)) → EvD 5 52 [.ref 1, .ref (dl b)] (tx M p 0 f) Q
def MsF (T : Nat → Int32) (N p : Nat) (hp : Bool) (n m : Nat) (D : Nat → Nat → Int32) (kd v : Int32) : Prop := ∀ (b : Bool) (M : ab_M) (nu g : Nat) (Q : ab_Q), TM b M T N → MD M hp n m D → (∀ M1, FQ b M M1 kd v → Q (some (.int 0)) M1) → EvD 5 132 [.ref 102] (md M (npT T N p) p (ntT T N p) nu g) Q
def MsS (T : Nat → Int32) (N p : Nat) (hp : Bool) (n m : Nat) (D : Nat → Nat → Int32) (e : Nat) (hp2 : Bool) (n2 m2 : Nat) (D2 : Nat → Nat → Int32) : Prop := ∀ (b : Bool) (M : ab_M) (nu g : Nat) (Q : ab_Q), TM b M T N → MD M hp n m D → (∀ M1 ta t nu g, TM b M1 T N → FR M M1 → MD M1 hp2 n2 m2 D2 → Q (some (.int 1)) (md M1 e ta t nu g)) → EvD 5 132 [.ref 102] (md M (npT T N p) p (ntT T N p) nu g) Q
def StC (T : Nat → Int32) (N p : Nat) (hp : Bool) (n m : Nat) (D : Nat → Nat → Int32) : Prop := (∃ kd v, kd ≠ 0 ∧ CsF T N p hp n m D kd v ∧ MsF T N p hp n m D kd v) ∨ ∃ e hp2 n2 m2 D2, p < e ∧ e ≤ N ∧ DV hp2 n2 m2 D2 ∧ CsS T N p hp n m D e hp2 n2 m2 D2 ∧ MsS T N p hp n m D e hp2 n2 m2 D2
theorem ntT_x {T : Nat → Int32} {N p : Nat} {x : Int32} (hp : p < N) (hs : skP T N p = p) (hx : ¬ fig x) (hx1 : x ≠ -1) : (ntT T N p = x) = (T p = x) := by
  unfold ntT
  rw [hs, if_pos hp]
  by_cases h : fig (T p)
  · rw [if_pos h]
    exact propext ⟨fun z => absurd z.symm hx1, fun z => absurd (z ▸ h) hx⟩
  · rw [if_neg h]
theorem npT_x {T : Nat → Int32} {N p : Nat} (hp : p < N) (hs : skP T N p = p) (hx : ¬ fig (T p)) : npT T N p = p + 1 := by
  unfold npT
  rw [hs, if_pos ⟨hp, hx⟩]
theorem C_cl {p N : Nat} {b : Bool} {T : Nat → Int32} {hp : Bool} {f : Int32} {M : ab_M} {Q : ab_Q} (hT : TT b M T N) (hlt : p < N) (h0 : mI M (dl b) 0 = b01 hp) (q1 : hp = false → EvD 4 53 [.ref 1, .ref (dl b), .int (T p)] (tx M p 0 f) (fun r M1 => r = none ∧ Q none M1)) (q2 : hp = true → T p = 108 → EvD 4 54 [.ref 1, .ref (dl b)] (tx M p 0 f) (fun r M1 => r = none ∧ Q none M1)) (q3 : hp = true → T p = 115 → EvD 4 55 [.ref 1, .ref (dl b)] (tx M p 0 f) (fun r M1 => r = none ∧ Q none M1)) (q4 : hp = true → T p ≠ 108 → T p ≠ 115 → Q none (tx M p (if T p = 112 then 3 else 1) (nI p))) : EvD 5 52 [.ref 1, .ref (dl b)] (tx M p 0 f) Q := by
  have hS0 := hT.1
  have hd := dl_c b
  have hk1 : mK M 1 = 8 := by rw [hS0.1]; rfl
  have hkd : mK M (dl b) = 1 := by rw [hS0.1]; exact dK
  have hl : ∀ K, EvD 4 59 [.ref 1] (tx M p 0 f) K = K (some (.int (T p))) (tx M p 0 f) := fun K => by rw [c_letter (by decide) hT (by omega), if_pos hlt]
  have e0 : mI (tx M p 0 f) (dl b) 0 = b01 hp := by rw [tx_o (by omega)]; exact h0
  rw [b_52 (Nat.le_refl 5)]
  cases hp with
  | false =>
    have e0 : mI (tx M p 0 f) (dl b) 0 = 0 := e0
    simp +decide only [e_52_0, e_52_1, e_52_4, e_52_5, e_52_6, e_52_9, e_52_12, e_52_13, e_52_14, e_52_15, ↓reduceIte, Int32.reduceAdd, Int32.reduceSub, an_0, an_1, an_2, an_3, an_4, an_5, tc_0, tc_1, tc_2, tc_3, tc_4, tc_5, tc_6, tc_7, tc_8, tc_9, tc_10, tc_11, tc_12, tc_13, tc_14, tc_15, tc_16, tc_17, tc_18, tc_19, tc_20, tc_21, tc_22, tc_23, tc_24, tc_25, tc_26, tc_27, tc_28, tc_29, tc_30, tc_31, tc_32, lcl_none, lcl_int, lcl_ref, lcl_null, lcl_long, okR_nil, okR_int, okR_ref, okR_null, okR_long, pushR_some, pushR_none, va_rf_some, va_rf_none, true_and, and_true, true_implies, false_implies, not_true_eq_false, not_false_eq_true, implies_true, bI_eq0, bI_eq1, bI_01, Classical.not_not, or_em, false_and, and_false, mK_tx, hk1, hkd, hl, e0]
    refine EvD_mono (q1 rfl) ?_
    rintro r M1 ⟨rfl, h⟩
    simp +decide only [e_52_18, e_52_68, ↓reduceIte, Int32.reduceAdd, Int32.reduceSub, an_0, an_1, an_2, an_3, an_4, an_5, tc_0, tc_1, tc_2, tc_3, tc_4, tc_5, tc_6, tc_7, tc_8, tc_9, tc_10, tc_11, tc_12, tc_13, tc_14, tc_15, tc_16, tc_17, tc_18, tc_19, tc_20, tc_21, tc_22, tc_23, tc_24, tc_25, tc_26, tc_27, tc_28, tc_29, tc_30, tc_31, tc_32, lcl_none, lcl_int, lcl_ref, lcl_null, lcl_long, okR_nil, okR_int, okR_ref, okR_null, okR_long, pushR_some, pushR_none, va_rf_some, va_rf_none, true_and, and_true, true_implies, false_implies, not_true_eq_false, not_false_eq_true, implies_true, bI_eq0, bI_eq1, bI_01, Classical.not_not, or_em, false_and, and_false]
    exact h
  | true =>
    have e0 : mI (tx M p 0 f) (dl b) 0 = 1 := e0
    by_cases h1 : T p = 108
    · have h1' : (T p = 108) = True := eq_true h1
      simp +decide only [e_52_0, e_52_1, e_52_4, e_52_5, e_52_6, e_52_9, e_52_12, e_52_13, e_52_14, e_52_15, e_52_18, e_52_21, e_52_22, e_52_24, e_52_27, e_52_28, e_52_29, ↓reduceIte, Int32.reduceAdd, Int32.reduceSub, an_0, an_1, an_2, an_3, an_4, an_5, tc_0, tc_1, tc_2, tc_3, tc_4, tc_5, tc_6, tc_7, tc_8, tc_9, tc_10, tc_11, tc_12, tc_13, tc_14, tc_15, tc_16, tc_17, tc_18, tc_19, tc_20, tc_21, tc_22, tc_23, tc_24, tc_25, tc_26, tc_27, tc_28, tc_29, tc_30, tc_31, tc_32, lcl_none, lcl_int, lcl_ref, lcl_null, lcl_long, okR_nil, okR_int, okR_ref, okR_null, okR_long, pushR_some, pushR_none, va_rf_some, va_rf_none, true_and, and_true, true_implies, false_implies, not_true_eq_false, not_false_eq_true, implies_true, bI_eq0, bI_eq1, bI_01, Classical.not_not, or_em, false_and, and_false, mK_tx, hk1, hkd, hl, e0, h1']
      refine EvD_mono (q2 rfl h1) ?_
      rintro r M1 ⟨rfl, h⟩
      simp +decide only [e_52_32, e_52_68, ↓reduceIte, Int32.reduceAdd, Int32.reduceSub, an_0, an_1, an_2, an_3, an_4, an_5, tc_0, tc_1, tc_2, tc_3, tc_4, tc_5, tc_6, tc_7, tc_8, tc_9, tc_10, tc_11, tc_12, tc_13, tc_14, tc_15, tc_16, tc_17, tc_18, tc_19, tc_20, tc_21, tc_22, tc_23, tc_24, tc_25, tc_26, tc_27, tc_28, tc_29, tc_30, tc_31, tc_32, lcl_none, lcl_int, lcl_ref, lcl_null, lcl_long, okR_nil, okR_int, okR_ref, okR_null, okR_long, pushR_some, pushR_none, va_rf_some, va_rf_none, true_and, and_true, true_implies, false_implies, not_true_eq_false, not_false_eq_true, implies_true, bI_eq0, bI_eq1, bI_01, Classical.not_not, or_em, false_and, and_false]
      exact h
    · have h1' : (T p = 108) = False := eq_false h1
      by_cases h2 : T p = 115
      · have h2' : (T p = 115) = True := eq_true h2
        simp +decide only [e_52_0, e_52_1, e_52_4, e_52_5, e_52_6, e_52_9, e_52_12, e_52_13, e_52_14, e_52_15, e_52_18, e_52_21, e_52_22, e_52_24, e_52_27, e_52_28, e_52_29, e_52_32, e_52_35, e_52_36, e_52_38, e_52_41, e_52_42, e_52_43, ↓reduceIte, Int32.reduceAdd, Int32.reduceSub, an_0, an_1, an_2, an_3, an_4, an_5, tc_0, tc_1, tc_2, tc_3, tc_4, tc_5, tc_6, tc_7, tc_8, tc_9, tc_10, tc_11, tc_12, tc_13, tc_14, tc_15, tc_16, tc_17, tc_18, tc_19, tc_20, tc_21, tc_22, tc_23, tc_24, tc_25, tc_26, tc_27, tc_28, tc_29, tc_30, tc_31, tc_32, lcl_none, lcl_int, lcl_ref, lcl_null, lcl_long, okR_nil, okR_int, okR_ref, okR_null, okR_long, pushR_some, pushR_none, va_rf_some, va_rf_none, true_and, and_true, true_implies, false_implies, not_true_eq_false, not_false_eq_true, implies_true, bI_eq0, bI_eq1, bI_01, Classical.not_not, or_em, false_and, and_false, mK_tx, hk1, hkd, hl, e0, h1', h2']
        refine EvD_mono (q3 rfl h2) ?_
        rintro r M1 ⟨rfl, h⟩
        simp +decide only [e_52_46, e_52_68, ↓reduceIte, Int32.reduceAdd, Int32.reduceSub, an_0, an_1, an_2, an_3, an_4, an_5, tc_0, tc_1, tc_2, tc_3, tc_4, tc_5, tc_6, tc_7, tc_8, tc_9, tc_10, tc_11, tc_12, tc_13, tc_14, tc_15, tc_16, tc_17, tc_18, tc_19, tc_20, tc_21, tc_22, tc_23, tc_24, tc_25, tc_26, tc_27, tc_28, tc_29, tc_30, tc_31, tc_32, lcl_none, lcl_int, lcl_ref, lcl_null, lcl_long, okR_nil, okR_int, okR_ref, okR_null, okR_long, pushR_some, pushR_none, va_rf_some, va_rf_none, true_and, and_true, true_implies, false_implies, not_true_eq_false, not_false_eq_true, implies_true, bI_eq0, bI_eq1, bI_01, Classical.not_not, or_em, false_and, and_false]
        exact h
      · have h2' : (T p = 115) = False := eq_false h2
        have hq := q4 rfl h1 h2
        by_cases h3 : T p = 112
        · have h3' : (T p = 112) = True := eq_true h3
          rw [if_pos h3] at hq
          simp +decide only [e_52_0, e_52_1, e_52_4, e_52_5, e_52_6, e_52_9, e_52_12, e_52_13, e_52_14, e_52_15, e_52_18, e_52_21, e_52_22, e_52_24, e_52_27, e_52_28, e_52_29, e_52_32, e_52_35, e_52_36, e_52_38, e_52_41, e_52_42, e_52_43, e_52_46, e_52_49, e_52_50, e_52_51, e_52_53, e_52_56, e_52_57, e_52_60, e_52_61, e_52_62, e_52_65, e_52_68, ↓reduceIte, Int32.reduceAdd, Int32.reduceSub, an_0, an_1, an_2, an_3, an_4, an_5, tc_0, tc_1, tc_2, tc_3, tc_4, tc_5, tc_6, tc_7, tc_8, tc_9, tc_10, tc_11, tc_12, tc_13, tc_14, tc_15, tc_16, tc_17, tc_18, tc_19, tc_20, tc_21, tc_22, tc_23, tc_24, tc_25, tc_26, tc_27, tc_28, tc_29, tc_30, tc_31, tc_32, lcl_none, lcl_int, lcl_ref, lcl_null, lcl_long, okR_nil, okR_int, okR_ref, okR_null, okR_long, pushR_some, pushR_none, va_rf_some, va_rf_none, true_and, and_true, true_implies, false_implies, not_true_eq_false, not_false_eq_true, implies_true, bI_eq0, bI_eq1, bI_01, Classical.not_not, or_em, false_and, and_false, mK_tx, hk1, hkd, hl, e0, h1', h2', h3', tx_2, c_note (d := 4) (by decide) hS0]
          exact hq
        · have h3' : (T p = 112) = False := eq_false h3
          rw [if_neg h3] at hq
          simp +decide only [e_52_0, e_52_1, e_52_4, e_52_5, e_52_6, e_52_9, e_52_12, e_52_13, e_52_14, e_52_15, e_52_18, e_52_21, e_52_22, e_52_24, e_52_27, e_52_28, e_52_29, e_52_32, e_52_35, e_52_36, e_52_38, e_52_41, e_52_42, e_52_43, e_52_46, e_52_49, e_52_50, e_52_51, e_52_53, e_52_56, e_52_57, e_52_60, e_52_61, e_52_62, e_52_65, e_52_68, ↓reduceIte, Int32.reduceAdd, Int32.reduceSub, an_0, an_1, an_2, an_3, an_4, an_5, tc_0, tc_1, tc_2, tc_3, tc_4, tc_5, tc_6, tc_7, tc_8, tc_9, tc_10, tc_11, tc_12, tc_13, tc_14, tc_15, tc_16, tc_17, tc_18, tc_19, tc_20, tc_21, tc_22, tc_23, tc_24, tc_25, tc_26, tc_27, tc_28, tc_29, tc_30, tc_31, tc_32, lcl_none, lcl_int, lcl_ref, lcl_null, lcl_long, okR_nil, okR_int, okR_ref, okR_null, okR_long, pushR_some, pushR_none, va_rf_some, va_rf_none, true_and, and_true, true_implies, false_implies, not_true_eq_false, not_false_eq_true, implies_true, bI_eq0, bI_eq1, bI_01, Classical.not_not, or_em, false_and, and_false, mK_tx, hk1, hkd, hl, e0, h1', h2', h3', tx_2, c_note (d := 4) (by decide) hS0]
          exact hq
theorem M_cl {p N ta nu g : Nat} {b : Bool} {T : Nat → Int32} {hp : Bool} {M : ab_M} {Q : ab_Q} (hS : Sh b M) (hlt : p < N) (hs : skP T N p = p) (h0 : mI M 102 9 = b01 hp) (q1 : hp = false → T p = 112 → EvD 4 129 [.ref 102] (md M (npT T N p) ta (ntT T N p) nu g) (fun r M1 => (r = some (.int 0) ∨ r = some (.int 1)) ∧ Q r M1)) (q1' : hp = false → T p ≠ 112 → Q (some (.int 0)) (fl M (npT T N p) ta (ntT T N p) nu g 1)) (q2 : hp = true → T p = 108 → EvD 4 130 [.ref 102] (md M (npT T N p) ta (ntT T N p) nu g) (fun r M1 => (r = some (.int 0) ∨ r = some (.int 1)) ∧ Q r M1)) (q3 : hp = true → T p = 115 → EvD 4 131 [.ref 102] (md M (npT T N p) ta (ntT T N p) nu g) (fun r M1 => (r = some (.int 0) ∨ r = some (.int 1)) ∧ Q r M1)) (q4 : hp = true → T p ≠ 108 → T p ≠ 115 → Q (some (.int 0)) (fl M (npT T N p) ta (ntT T N p) nu g (if T p = 112 then 3 else 1))) : EvD 5 132 [.ref 102] (md M (npT T N p) ta (ntT T N p) nu g) Q := by
  have hk : mK M 102 = 11 := by rw [hS.1]; rfl
  have e9 : mI (md M (npT T N p) ta (ntT T N p) nu g) 102 9 = b01 hp := by rw [md_i (by decide)]; exact h0
  have x112 := ntT_x (x := 112) hlt hs (by decide) (by decide)
  have x108 := ntT_x (x := 108) hlt hs (by decide) (by decide)
  have x115 := ntT_x (x := 115) hlt hs (by decide) (by decide)
  rw [b_132 (Nat.le_refl 5)]
  cases hp with
  | false =>
    have e9 : mI (md M (npT T N p) ta (ntT T N p) nu g) 102 9 = 0 := e9
    by_cases h1 : T p = 112
    · have h1' : (T p = 112) = True := eq_true h1
      simp +decide only [e_132_0, e_132_1, e_132_4, e_132_6, e_132_9, e_132_10, e_132_13, e_132_16, e_132_17, e_132_18, e_132_21, e_132_24, e_132_25, ↓reduceIte, Int32.reduceAdd, Int32.reduceSub, an_0, an_1, an_2, an_3, an_4, an_5, tc_0, tc_1, tc_2, tc_3, tc_4, tc_5, tc_6, tc_7, tc_8, tc_9, tc_10, tc_11, tc_12, tc_13, tc_14, tc_15, tc_16, tc_17, tc_18, tc_19, tc_20, tc_21, tc_22, tc_23, tc_24, tc_25, tc_26, tc_27, tc_28, tc_29, tc_30, tc_31, tc_32, lcl_none, lcl_int, lcl_ref, lcl_null, lcl_long, okR_nil, okR_int, okR_ref, okR_null, okR_long, pushR_some, pushR_none, va_rf_some, va_rf_none, true_and, and_true, true_implies, false_implies, not_true_eq_false, not_false_eq_true, implies_true, bI_eq0, bI_eq1, bI_01, Classical.not_not, or_em, false_and, and_false, mK_md, hk, md_4, x112, h1', e9]
      refine EvD_mono (q1 rfl h1) ?_
      rintro r M1 ⟨h9, h⟩
      rcases h9 with rfl | rfl
      · simp +decide only [e_132_28, ↓reduceIte, Int32.reduceAdd, Int32.reduceSub, an_0, an_1, an_2, an_3, an_4, an_5, tc_0, tc_1, tc_2, tc_3, tc_4, tc_5, tc_6, tc_7, tc_8, tc_9, tc_10, tc_11, tc_12, tc_13, tc_14, tc_15, tc_16, tc_17, tc_18, tc_19, tc_20, tc_21, tc_22, tc_23, tc_24, tc_25, tc_26, tc_27, tc_28, tc_29, tc_30, tc_31, tc_32, lcl_none, lcl_int, lcl_ref, lcl_null, lcl_long, okR_nil, okR_int, okR_ref, okR_null, okR_long, pushR_some, pushR_none, va_rf_some, va_rf_none, true_and, and_true, true_implies, false_implies, not_true_eq_false, not_false_eq_true, implies_true, bI_eq0, bI_eq1, bI_01, Classical.not_not, or_em, false_and, and_false]
        exact h
      · simp +decide only [e_132_28, ↓reduceIte, Int32.reduceAdd, Int32.reduceSub, an_0, an_1, an_2, an_3, an_4, an_5, tc_0, tc_1, tc_2, tc_3, tc_4, tc_5, tc_6, tc_7, tc_8, tc_9, tc_10, tc_11, tc_12, tc_13, tc_14, tc_15, tc_16, tc_17, tc_18, tc_19, tc_20, tc_21, tc_22, tc_23, tc_24, tc_25, tc_26, tc_27, tc_28, tc_29, tc_30, tc_31, tc_32, lcl_none, lcl_int, lcl_ref, lcl_null, lcl_long, okR_nil, okR_int, okR_ref, okR_null, okR_long, pushR_some, pushR_none, va_rf_some, va_rf_none, true_and, and_true, true_implies, false_implies, not_true_eq_false, not_false_eq_true, implies_true, bI_eq0, bI_eq1, bI_01, Classical.not_not, or_em, false_and, and_false]
        exact h
    · have h1' : (T p = 112) = False := eq_false h1
      simp +decide only [e_132_0, e_132_1, e_132_4, e_132_6, e_132_9, e_132_10, e_132_13, e_132_16, e_132_17, e_132_18, e_132_21, e_132_24, e_132_25, e_132_28, e_132_29, e_132_30, e_132_33, e_132_36, e_132_37, e_132_38, e_132_41, ↓reduceIte, Int32.reduceAdd, Int32.reduceSub, an_0, an_1, an_2, an_3, an_4, an_5, tc_0, tc_1, tc_2, tc_3, tc_4, tc_5, tc_6, tc_7, tc_8, tc_9, tc_10, tc_11, tc_12, tc_13, tc_14, tc_15, tc_16, tc_17, tc_18, tc_19, tc_20, tc_21, tc_22, tc_23, tc_24, tc_25, tc_26, tc_27, tc_28, tc_29, tc_30, tc_31, tc_32, lcl_none, lcl_int, lcl_ref, lcl_null, lcl_long, okR_nil, okR_int, okR_ref, okR_null, okR_long, pushR_some, pushR_none, va_rf_some, va_rf_none, true_and, and_true, true_implies, false_implies, not_true_eq_false, not_false_eq_true, implies_true, bI_eq0, bI_eq1, bI_01, Classical.not_not, or_em, false_and, and_false, mK_md, hk, md_4, x112, h1', e9, c_fails (d := 4) (by decide) hS]
      exact q1' rfl h1
  | true =>
    have e9 : mI (md M (npT T N p) ta (ntT T N p) nu g) 102 9 = 1 := e9
    by_cases h1 : T p = 112
    · have h1' : (T p = 112) = True := eq_true h1
      have hq := q4 rfl (by rw [h1]; decide) (by rw [h1]; decide)
      rw [if_pos h1] at hq
      simp +decide only [e_132_0, e_132_1, e_132_4, e_132_6, e_132_9, e_132_10, e_132_13, e_132_16, e_132_17, e_132_18, e_132_21, e_132_24, e_132_25, e_132_28, ↓reduceIte, Int32.reduceAdd, Int32.reduceSub, an_0, an_1, an_2, an_3, an_4, an_5, tc_0, tc_1, tc_2, tc_3, tc_4, tc_5, tc_6, tc_7, tc_8, tc_9, tc_10, tc_11, tc_12, tc_13, tc_14, tc_15, tc_16, tc_17, tc_18, tc_19, tc_20, tc_21, tc_22, tc_23, tc_24, tc_25, tc_26, tc_27, tc_28, tc_29, tc_30, tc_31, tc_32, lcl_none, lcl_int, lcl_ref, lcl_null, lcl_long, okR_nil, okR_int, okR_ref, okR_null, okR_long, pushR_some, pushR_none, va_rf_some, va_rf_none, true_and, and_true, true_implies, false_implies, not_true_eq_false, not_false_eq_true, implies_true, bI_eq0, bI_eq1, bI_01, Classical.not_not, or_em, false_and, and_false, mK_md, hk, md_4, x112, h1', e9, c_fails (d := 4) (by decide) hS]
      exact hq
    · have h1' : (T p = 112) = False := eq_false h1
      by_cases h2 : T p = 108
      · have h2' : (T p = 108) = True := eq_true h2
        simp +decide only [e_132_0, e_132_1, e_132_4, e_132_6, e_132_9, e_132_10, e_132_13, e_132_16, e_132_17, e_132_18, e_132_21, e_132_24, e_132_25, e_132_28, e_132_29, e_132_30, e_132_33, e_132_36, e_132_37, e_132_38, e_132_41, e_132_42, e_132_43, e_132_46, e_132_48, e_132_51, e_132_52, ↓reduceIte, Int32.reduceAdd, Int32.reduceSub, an_0, an_1, an_2, an_3, an_4, an_5, tc_0, tc_1, tc_2, tc_3, tc_4, tc_5, tc_6, tc_7, tc_8, tc_9, tc_10, tc_11, tc_12, tc_13, tc_14, tc_15, tc_16, tc_17, tc_18, tc_19, tc_20, tc_21, tc_22, tc_23, tc_24, tc_25, tc_26, tc_27, tc_28, tc_29, tc_30, tc_31, tc_32, lcl_none, lcl_int, lcl_ref, lcl_null, lcl_long, okR_nil, okR_int, okR_ref, okR_null, okR_long, pushR_some, pushR_none, va_rf_some, va_rf_none, true_and, and_true, true_implies, false_implies, not_true_eq_false, not_false_eq_true, implies_true, bI_eq0, bI_eq1, bI_01, Classical.not_not, or_em, false_and, and_false, mK_md, hk, md_4, x112, x108, h1', h2', e9]
        refine EvD_mono (q2 rfl h2) ?_
        rintro r M1 ⟨h9, h⟩
        rcases h9 with rfl | rfl
        · simp +decide only [e_132_55, e_132_58, e_132_59, e_132_62, e_132_64, e_132_67, e_132_68, e_132_71, e_132_74, e_132_75, e_132_76, e_132_79, ↓reduceIte, Int32.reduceAdd, Int32.reduceSub, an_0, an_1, an_2, an_3, an_4, an_5, tc_0, tc_1, tc_2, tc_3, tc_4, tc_5, tc_6, tc_7, tc_8, tc_9, tc_10, tc_11, tc_12, tc_13, tc_14, tc_15, tc_16, tc_17, tc_18, tc_19, tc_20, tc_21, tc_22, tc_23, tc_24, tc_25, tc_26, tc_27, tc_28, tc_29, tc_30, tc_31, tc_32, lcl_none, lcl_int, lcl_ref, lcl_null, lcl_long, okR_nil, okR_int, okR_ref, okR_null, okR_long, pushR_some, pushR_none, va_rf_some, va_rf_none, true_and, and_true, true_implies, false_implies, not_true_eq_false, not_false_eq_true, implies_true, bI_eq0, bI_eq1, bI_01, Classical.not_not, or_em, false_and, and_false]
          exact h
        · simp +decide only [e_132_55, e_132_58, e_132_59, e_132_62, e_132_64, e_132_67, e_132_68, e_132_71, e_132_74, e_132_75, e_132_76, e_132_79, ↓reduceIte, Int32.reduceAdd, Int32.reduceSub, an_0, an_1, an_2, an_3, an_4, an_5, tc_0, tc_1, tc_2, tc_3, tc_4, tc_5, tc_6, tc_7, tc_8, tc_9, tc_10, tc_11, tc_12, tc_13, tc_14, tc_15, tc_16, tc_17, tc_18, tc_19, tc_20, tc_21, tc_22, tc_23, tc_24, tc_25, tc_26, tc_27, tc_28, tc_29, tc_30, tc_31, tc_32, lcl_none, lcl_int, lcl_ref, lcl_null, lcl_long, okR_nil, okR_int, okR_ref, okR_null, okR_long, pushR_some, pushR_none, va_rf_some, va_rf_none, true_and, and_true, true_implies, false_implies, not_true_eq_false, not_false_eq_true, implies_true, bI_eq0, bI_eq1, bI_01, Classical.not_not, or_em, false_and, and_false]
          exact h
      · have h2' : (T p = 108) = False := eq_false h2
        by_cases h3 : T p = 115
        · have h3' : (T p = 115) = True := eq_true h3
          simp +decide only [e_132_0, e_132_1, e_132_4, e_132_6, e_132_9, e_132_10, e_132_13, e_132_16, e_132_17, e_132_18, e_132_21, e_132_24, e_132_25, e_132_28, e_132_29, e_132_30, e_132_33, e_132_36, e_132_37, e_132_38, e_132_41, e_132_42, e_132_43, e_132_46, e_132_48, e_132_51, e_132_52, e_132_55, e_132_58, e_132_59, e_132_62, e_132_64, e_132_67, e_132_68, ↓reduceIte, Int32.reduceAdd, Int32.reduceSub, an_0, an_1, an_2, an_3, an_4, an_5, tc_0, tc_1, tc_2, tc_3, tc_4, tc_5, tc_6, tc_7, tc_8, tc_9, tc_10, tc_11, tc_12, tc_13, tc_14, tc_15, tc_16, tc_17, tc_18, tc_19, tc_20, tc_21, tc_22, tc_23, tc_24, tc_25, tc_26, tc_27, tc_28, tc_29, tc_30, tc_31, tc_32, lcl_none, lcl_int, lcl_ref, lcl_null, lcl_long, okR_nil, okR_int, okR_ref, okR_null, okR_long, pushR_some, pushR_none, va_rf_some, va_rf_none, true_and, and_true, true_implies, false_implies, not_true_eq_false, not_false_eq_true, implies_true, bI_eq0, bI_eq1, bI_01, Classical.not_not, or_em, false_and, and_false, mK_md, hk, md_4, x112, x108, x115, h1', h2', h3', e9]
          refine EvD_mono (q3 rfl h3) ?_
          rintro r M1 ⟨h9, h⟩
          rcases h9 with rfl | rfl
          · simp +decide only [e_132_71, e_132_74, e_132_75, e_132_76, e_132_79, ↓reduceIte, Int32.reduceAdd, Int32.reduceSub, an_0, an_1, an_2, an_3, an_4, an_5, tc_0, tc_1, tc_2, tc_3, tc_4, tc_5, tc_6, tc_7, tc_8, tc_9, tc_10, tc_11, tc_12, tc_13, tc_14, tc_15, tc_16, tc_17, tc_18, tc_19, tc_20, tc_21, tc_22, tc_23, tc_24, tc_25, tc_26, tc_27, tc_28, tc_29, tc_30, tc_31, tc_32, lcl_none, lcl_int, lcl_ref, lcl_null, lcl_long, okR_nil, okR_int, okR_ref, okR_null, okR_long, pushR_some, pushR_none, va_rf_some, va_rf_none, true_and, and_true, true_implies, false_implies, not_true_eq_false, not_false_eq_true, implies_true, bI_eq0, bI_eq1, bI_01, Classical.not_not, or_em, false_and, and_false]
            exact h
          · simp +decide only [e_132_71, e_132_74, e_132_75, e_132_76, e_132_79, ↓reduceIte, Int32.reduceAdd, Int32.reduceSub, an_0, an_1, an_2, an_3, an_4, an_5, tc_0, tc_1, tc_2, tc_3, tc_4, tc_5, tc_6, tc_7, tc_8, tc_9, tc_10, tc_11, tc_12, tc_13, tc_14, tc_15, tc_16, tc_17, tc_18, tc_19, tc_20, tc_21, tc_22, tc_23, tc_24, tc_25, tc_26, tc_27, tc_28, tc_29, tc_30, tc_31, tc_32, lcl_none, lcl_int, lcl_ref, lcl_null, lcl_long, okR_nil, okR_int, okR_ref, okR_null, okR_long, pushR_some, pushR_none, va_rf_some, va_rf_none, true_and, and_true, true_implies, false_implies, not_true_eq_false, not_false_eq_true, implies_true, bI_eq0, bI_eq1, bI_01, Classical.not_not, or_em, false_and, and_false]
            exact h
        · have h3' : (T p = 115) = False := eq_false h3
          have hq := q4 rfl h2 h3
          rw [if_neg h1] at hq
          simp +decide only [e_132_0, e_132_1, e_132_4, e_132_6, e_132_9, e_132_10, e_132_13, e_132_16, e_132_17, e_132_18, e_132_21, e_132_24, e_132_25, e_132_28, e_132_29, e_132_30, e_132_33, e_132_36, e_132_37, e_132_38, e_132_41, e_132_42, e_132_43, e_132_46, e_132_48, e_132_51, e_132_52, e_132_55, e_132_58, e_132_59, e_132_62, e_132_64, e_132_67, e_132_68, e_132_71, e_132_74, e_132_75, e_132_76, e_132_79, ↓reduceIte, Int32.reduceAdd, Int32.reduceSub, an_0, an_1, an_2, an_3, an_4, an_5, tc_0, tc_1, tc_2, tc_3, tc_4, tc_5, tc_6, tc_7, tc_8, tc_9, tc_10, tc_11, tc_12, tc_13, tc_14, tc_15, tc_16, tc_17, tc_18, tc_19, tc_20, tc_21, tc_22, tc_23, tc_24, tc_25, tc_26, tc_27, tc_28, tc_29, tc_30, tc_31, tc_32, lcl_none, lcl_int, lcl_ref, lcl_null, lcl_long, okR_nil, okR_int, okR_ref, okR_null, okR_long, pushR_some, pushR_none, va_rf_some, va_rf_none, true_and, and_true, true_implies, false_implies, not_true_eq_false, not_false_eq_true, implies_true, bI_eq0, bI_eq1, bI_01, Classical.not_not, or_em, false_and, and_false, mK_md, hk, md_4, x112, x108, x115, h1', h2', h3', e9, c_fails (d := 4) (by decide) hS]
          exact hq
