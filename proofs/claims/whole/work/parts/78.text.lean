/-! the text, as both read it -/
def skF (T : Nat → Int32) : Nat → Nat → Nat
  | 0, p => p
  | f + 1, p => if T p = 32 then skF T f (p + 1) else p
def skP (T : Nat → Int32) (N p : Nat) : Nat := skF T (N - p) p
abbrev fig (x : Int32) : Prop := 48 ≤ x ∧ x ≤ 57
def dgN (x : Int32) : Nat := x.toNatClampNeg - 48
def rdF (T : Nat → Int32) : Nat → Nat → Nat → Nat → Nat × Nat × Nat
  | 0, p, g, v => (p, g, v)
  | f + 1, p, g, v => if fig (T p) then rdF T f (p + 1) (g + 1) (if g < 3 then 10 * v + dgN (T p) else v) else (p, g, v)
theorem skF_le {T : Nat → Int32} : ∀ f p, p ≤ skF T f p ∧ skF T f p ≤ p + f := by
  intro f
  induction f with
  | zero => intro p; exact ⟨Nat.le_refl _, Nat.le_refl _⟩
  | succ f ih =>
    intro p
    unfold skF
    split
    · have h := ih (p + 1); omega
    · omega
theorem skP_le {T : Nat → Int32} {N p : Nat} (h : p ≤ N) : p ≤ skP T N p ∧ skP T N p ≤ N := by
  have := skF_le (T := T) (N - p) p
  unfold skP
  omega
theorem skF_no {T : Nat → Int32} : ∀ f p, skF T f p < p + f → T (skF T f p) ≠ 32 := by
  intro f
  induction f with
  | zero => intro p h; simp [skF] at h
  | succ f ih =>
    intro p h
    unfold skF at h ⊢
    split
    · rename_i e
      rw [if_pos e] at h
      exact ih (p + 1) (by omega)
    · rename_i e
      exact e
theorem skP_no {T : Nat → Int32} {N p : Nat} (h : p ≤ N) (h2 : skP T N p < N) : T (skP T N p) ≠ 32 := skF_no _ _ (by unfold skP at h2; omega)
theorem skP_id {T : Nat → Int32} {N p : Nat} (h : p < N → T p ≠ 32) : skP T N p = p := by
  unfold skP
  cases hf : N - p with
  | zero => rfl
  | succ f => unfold skF; rw [if_neg (h (by omega))]
theorem skP_skP {T : Nat → Int32} {N p : Nat} (h : p ≤ N) : skP T N (skP T N p) = skP T N p := skP_id (fun h2 => skP_no h h2)
theorem rdF_le {T : Nat → Int32} : ∀ f p g v, p ≤ (rdF T f p g v).1 ∧ (rdF T f p g v).1 ≤ p + f ∧ (rdF T f p g v).2.1 + p = g + (rdF T f p g v).1 := by
  intro f
  induction f with
  | zero => intro p g v; exact ⟨Nat.le_refl _, Nat.le_refl _, by simp [rdF]; try omega⟩
  | succ f ih =>
    intro p g v
    unfold rdF
    split
    · have h := ih (p + 1) (g + 1) (if g < 3 then 10 * v + dgN (T p) else v)
      omega
    · simp; try omega
theorem fig_d {x : Int32} (h : fig x) : dgN x ≤ 9 ∧ x = nI (48 + dgN x) := by
  have h1 : (48 : Int) ≤ x.toInt := by simpa using Int32.le_iff_toInt_le.mp h.1
  have h2 : x.toInt ≤ 57 := by simpa using Int32.le_iff_toInt_le.mp h.2
  have e : (x.toNatClampNeg : Int) = x.toInt := by
    unfold Int32.toNatClampNeg
    omega
  unfold dgN
  refine ⟨by omega, ?_⟩
  rw [← Int32.toInt_inj]
  rw [show 48 + (x.toNatClampNeg - 48) = x.toNatClampNeg by omega, nI_toInt (by omega)]
  omega
theorem rdF_v {T : Nat → Int32} : ∀ f p g v, v < 10 ^ min g 3 → (rdF T f p g v).2.2 < 10 ^ min (rdF T f p g v).2.1 3 := by
  intro f
  induction f with
  | zero => intro p g v h; exact h
  | succ f ih =>
    intro p g v h
    unfold rdF
    split
    · rename_i e
      refine ih _ _ _ ?_
      have hd := (fig_d e).1
      split
      · rename_i hg
        rw [show min (g + 1) 3 = g + 1 by omega, Nat.pow_succ]
        rw [show min g 3 = g by omega] at h
        omega
      · rename_i hg
        rw [show min (g + 1) 3 = 3 by omega]
        rw [show min g 3 = 3 by omega] at h
        exact h
    · exact h
def rdP (T : Nat → Int32) (N p : Nat) : Nat × Nat × Nat := rdF T (N - skP T N p) (skP T N p) 0 0
def npP (T : Nat → Int32) (N p : Nat) : Nat := (rdP T N p).1
def ngP (T : Nat → Int32) (N p : Nat) : Nat := (rdP T N p).2.1
def nvP (T : Nat → Int32) (N p : Nat) : Nat := (rdP T N p).2.2
def nkP (T : Nat → Int32) (N p : Nat) (most : Int32) : Int32 := if ngP T N p = 0 then 1 else if 3 < ngP T N p ∨ most < nI (nvP T N p) then 2 else 0
def ekP (T : Nat → Int32) (N p : Nat) : Int32 := if skP T N p < N ∧ T (skP T N p) = 59 then 0 else 1
def epP (T : Nat → Int32) (N p : Nat) : Nat := if skP T N p < N ∧ T (skP T N p) = 59 then skP T N p + 1 else skP T N p
theorem nvP_lt {T : Nat → Int32} {N p : Nat} : nvP T N p < 1000 := by
  have h := rdF_v (T := T) (N - skP T N p) (skP T N p) 0 0 (by decide)
  have h2 : 10 ^ min (rdF T (N - skP T N p) (skP T N p) 0 0).2.1 3 ≤ 10 ^ 3 := Nat.pow_le_pow_right (by decide) (Nat.min_le_right _ _)
  unfold nvP rdP
  omega
theorem npP_le {T : Nat → Int32} {N p : Nat} (h : p ≤ N) : skP T N p ≤ npP T N p ∧ npP T N p ≤ N ∧ ngP T N p + skP T N p = npP T N p := by
  have h1 := rdF_le (T := T) (N - skP T N p) (skP T N p) 0 0
  have h2 := skP_le (T := T) h
  unfold npP ngP rdP
  omega
theorem epP_le {T : Nat → Int32} {N p : Nat} (h : p ≤ N) : p ≤ epP T N p ∧ epP T N p ≤ N := by
  have h2 := skP_le (T := T) h
  unfold epP
  split <;> omega
theorem ng_0 {T : Nat → Int32} {N p : Nat} (h : p ≤ N) : (ngP T N p = 0) = ¬ (skP T N p < N ∧ fig (T (skP T N p))) := by
  have h2 := skP_le (T := T) h
  unfold ngP rdP
  cases hf : N - skP T N p with
  | zero =>
    simp only [rdF, true_iff, eq_iff_iff]
    omega
  | succ f =>
    unfold rdF
    by_cases e : fig (T (skP T N p))
    · rw [if_pos e]
      have h3 := rdF_le (T := T) f (skP T N p + 1) (0 + 1) (if 0 < 3 then 10 * 0 + dgN (T (skP T N p)) else 0)
      exact propext ⟨fun z => absurd z (by omega), fun z => absurd ⟨by omega, e⟩ z⟩
    · rw [if_neg e]
      exact propext ⟨fun _ z => e z.2, fun _ => rfl⟩
def nt (k kd : Int32) : Int32 := if k = 0 then kd else k
def nf (k f kd : Int32) (q : Nat) : Int32 := if k = 0 ∧ kd ≠ 0 then nI q else f
theorem nt_0 {k : Int32} : nt k 0 = k := by
  unfold nt
  by_cases h : k = 0
  · rw [if_pos h, h]
  · rw [if_neg h]
theorem nf_0 {k f : Int32} {q : Nat} : nf k f 0 q = f := by
  unfold nf
  rw [if_neg (fun z => z.2 rfl)]
/-! the class reads -/
theorem wI_ext {A B : ab_M} (h : mI A = mI B) (h2 : A.2 = B.2) : A = B := Prod.ext h h2
def tx (M : ab_M) (p : Nat) (k f : Int32) : ab_M := wI (wI (wI M 1 2 (nI p)) 1 3 k) 1 4 f
theorem tx_o {M : ab_M} {p a : Nat} {k f : Int32} (h : a ≠ 1) : mI (tx M p k f) a = mI M a := by
  unfold tx
  rw [mI_wI_ne h, mI_wI_ne h, mI_wI_ne h]
theorem tx_1 {M : ab_M} {p : Nat} {k f : Int32} : mI (tx M p k f) 1 1 = mI M 1 1 := by simp [tx, mI_wI]
theorem tx_2 {M : ab_M} {p : Nat} {k f : Int32} : mI (tx M p k f) 1 2 = nI p := by simp [tx, mI_wI]
theorem tx_3 {M : ab_M} {p : Nat} {k f : Int32} : mI (tx M p k f) 1 3 = k := by simp [tx, mI_wI]
theorem tx_4 {M : ab_M} {p : Nat} {k f : Int32} : mI (tx M p k f) 1 4 = f := by simp [tx, mI_wI]
theorem tx_wp {M : ab_M} {p q : Nat} {k f : Int32} : wI (tx M p k f) 1 2 (nI q) = tx M q k f := by
  refine wI_ext ?_ rfl
  funext a j
  simp only [tx, mI_wI]
  by_cases h1 : a = 1 <;> by_cases h2 : j = 2 <;> by_cases h3 : j = 3 <;> by_cases h4 : j = 4 <;> simp [h1, h2, h3, h4] <;> omega
theorem tx_wk {M : ab_M} {p : Nat} {k k1 f : Int32} : wI (tx M p k f) 1 3 k1 = tx M p k1 f := by
  refine wI_ext ?_ rfl
  funext a j
  simp only [tx, mI_wI]
  by_cases h1 : a = 1 <;> by_cases h2 : j = 2 <;> by_cases h3 : j = 3 <;> by_cases h4 : j = 4 <;> simp [h1, h2, h3, h4] <;> omega
theorem tx_wf {M : ab_M} {p : Nat} {k f f1 : Int32} : wI (tx M p k f) 1 4 f1 = tx M p k f1 := by
  refine wI_ext ?_ rfl
  funext a j
  simp only [tx, mI_wI]
  by_cases h1 : a = 1 <;> by_cases h2 : j = 2 <;> by_cases h3 : j = 3 <;> by_cases h4 : j = 4 <;> simp [h1, h2, h3, h4] <;> omega
theorem tx_w {M : ab_M} {p a j : Nat} {k f v : Int32} (h : a ≠ 1) : wI (tx M p k f) a j v = tx (wI M a j v) p k f := by
  refine wI_ext ?_ rfl
  funext x y
  simp only [tx, mI_wI]
  by_cases h1 : x = 1
  · subst h1
    have e : ((1 : Nat) = a) = False := eq_false (fun z => h z.symm)
    simp only [e, false_and, if_false, true_and]
  · simp only [h1, false_and, if_false]
/-- the text of the class -/
def TT (b : Bool) (M : ab_M) (T : Nat → Int32) (N : Nat) : Prop := Sh b M ∧ mI M 1 1 = nI N ∧ N ≤ 220 ∧ ∀ i, i < 220 → mI M 2 i = T i
theorem c_letter {d p N : Nat} {b : Bool} {T : Nat → Int32} {k f : Int32} {M : ab_M} {K : ab_Q} (hd : 1 ≤ d) (hT : TT b M T N) (hp : p ≤ N) : EvD d 59 [.ref 1] (tx M p k f) K = K (some (.int (if p < N then T p else -1))) (tx M p k f) := by
  obtain ⟨hS0, h1, hN, ht⟩ := hT
  have hS : Sh b (tx M p k f) := hS0
  have z0 : (nI p < 0) = False := eq_false (nI_pos (by omega))
  have z0' : (0 ≤ nI p) = True := eq_true (nI_pos' (by omega))
  have e1 : mI (tx M p k f) 1 1 = nI N := by rw [tx_1]; exact h1
  rw [b_59 hd]
  by_cases h : p < N
  · have z1 : (nI N ≤ nI p) = False := by rw [nI_leE (by omega) (by omega)]; exact eq_false (by omega)
    have z2 : (220 ≤ nI p) = False := by rw [show (220 : Int32) = nI 220 from rfl, nI_leE (by decide) (by omega)]; exact eq_false (by omega)
    have hcl : (nI p).toNatClampNeg = p := nI_clamp (by omega)
    have hin : inX (nI p) 220 = True := eq_true (inX_nI (by decide) (by omega))
    have e2 : mI (tx M p k f) 2 p = T p := by rw [tx_o (by decide)]; exact ht p (by omega)
    simp +decide only [e_59_0, e_59_1, e_59_4, e_59_7, e_59_8, e_59_11, e_59_12, e_59_15, e_59_18, e_59_19, e_59_22, e_59_25, e_59_28, e_59_29, e_59_32, e_59_33, e_59_36, e_59_37, e_59_40, e_59_41, ↓reduceIte, Int32.reduceAdd, Int32.reduceSub, an_0, an_1, an_2, an_3, an_4, an_5, tc_0, tc_1, tc_2, tc_3, tc_4, tc_5, tc_6, tc_7, tc_8, tc_9, tc_10, tc_11, tc_12, tc_13, tc_14, tc_15, tc_16, tc_17, tc_18, tc_19, tc_20, tc_21, tc_22, tc_23, tc_24, tc_25, tc_26, tc_27, tc_28, tc_29, tc_30, tc_31, tc_32, lcl_none, lcl_int, lcl_ref, lcl_null, lcl_long, okR_nil, okR_int, okR_ref, okR_null, okR_long, pushR_some, pushR_none, va_rf_some, va_rf_none, true_and, and_true, true_implies, false_implies, not_true_eq_false, not_false_eq_true, implies_true, bI_eq0, bI_eq1, bI_01, Classical.not_not, or_em, false_and, and_false, hS.1, hS.2.1, hS.2.2.1, hS.2.2.2.1, kT_0, kT_1, kT_2, kT_15, kT_16, kT_17, kT_18, kT_19, kT_80, kT_81, kT_82, kT_89, kT_90, kT_91, kT_92, kT_93, kT_94, kT_95, kT_96, kT_97, kT_98, kT_99, kT_100, kT_101, nT_2, nT_16, nT_17, nT_19, nT_81, nT_82, nT_90, nT_91, nT_94, nT_95, nT_97, nT_98, nT_100, nT_101, rT_0_0, rT_0_3, rT_0_4, rT_0_5, rT_0_6, rT_0_7, rT_0_8, rT_0_9, rT_0_10, rT_1_0, rT_15_0, rT_15_1, rT_18_0, rT_80_0, rT_80_1, rT_89_0, rT_89_1, rT_93_6, rT_93_7, rT_96_0, rT_96_1, rT_99_0, rT_99_1, tx_2, e1, z0, z0', z1, z2, hcl, hin, e2, h]
  · have z1 : (nI N ≤ nI p) = True := by rw [nI_leE (by omega) (by omega)]; exact eq_true (by omega)
    simp +decide only [e_59_0, e_59_1, e_59_4, e_59_7, e_59_8, e_59_11, e_59_12, e_59_15, e_59_18, e_59_19, e_59_22, e_59_25, e_59_28, e_59_29, e_59_32, e_59_33, e_59_36, e_59_37, e_59_40, e_59_41, ↓reduceIte, Int32.reduceAdd, Int32.reduceSub, an_0, an_1, an_2, an_3, an_4, an_5, tc_0, tc_1, tc_2, tc_3, tc_4, tc_5, tc_6, tc_7, tc_8, tc_9, tc_10, tc_11, tc_12, tc_13, tc_14, tc_15, tc_16, tc_17, tc_18, tc_19, tc_20, tc_21, tc_22, tc_23, tc_24, tc_25, tc_26, tc_27, tc_28, tc_29, tc_30, tc_31, tc_32, lcl_none, lcl_int, lcl_ref, lcl_null, lcl_long, okR_nil, okR_int, okR_ref, okR_null, okR_long, pushR_some, pushR_none, va_rf_some, va_rf_none, true_and, and_true, true_implies, false_implies, not_true_eq_false, not_false_eq_true, implies_true, bI_eq0, bI_eq1, bI_01, Classical.not_not, or_em, false_and, and_false, hS.1, hS.2.1, hS.2.2.1, hS.2.2.2.1, kT_0, kT_1, kT_2, kT_15, kT_16, kT_17, kT_18, kT_19, kT_80, kT_81, kT_82, kT_89, kT_90, kT_91, kT_92, kT_93, kT_94, kT_95, kT_96, kT_97, kT_98, kT_99, kT_100, kT_101, nT_2, nT_16, nT_17, nT_19, nT_81, nT_82, nT_90, nT_91, nT_94, nT_95, nT_97, nT_98, nT_100, nT_101, rT_0_0, rT_0_3, rT_0_4, rT_0_5, rT_0_6, rT_0_7, rT_0_8, rT_0_9, rT_0_10, rT_1_0, rT_15_0, rT_15_1, rT_18_0, rT_80_0, rT_80_1, rT_89_0, rT_89_1, rT_93_6, rT_93_7, rT_96_0, rT_96_1, rT_99_0, rT_99_1, tx_2, e1, z0, z0', z1, h]
theorem c_isFig {d : Nat} {x : Int32} {M : ab_M} {K : ab_Q} (hd : 1 ≤ d) : EvD d 60 [.int x] M K = K (some (.int (bI (fig x)))) M := by
  rw [b_60 hd]
  unfold fig
  by_cases h1 : x < 48
  · have h1' : (48 ≤ x) = False := eq_false (Int32.not_le.mpr h1)
    simp +decide only [e_60_0, e_60_1, e_60_3, e_60_6, e_60_7, e_60_9, e_60_12, e_60_13, e_60_16, e_60_17, ↓reduceIte, Int32.reduceAdd, Int32.reduceSub, an_0, an_1, an_2, an_3, an_4, an_5, tc_0, tc_1, tc_2, tc_3, tc_4, tc_5, tc_6, tc_7, tc_8, tc_9, tc_10, tc_11, tc_12, tc_13, tc_14, tc_15, tc_16, tc_17, tc_18, tc_19, tc_20, tc_21, tc_22, tc_23, tc_24, tc_25, tc_26, tc_27, tc_28, tc_29, tc_30, tc_31, tc_32, lcl_none, lcl_int, lcl_ref, lcl_null, lcl_long, okR_nil, okR_int, okR_ref, okR_null, okR_long, pushR_some, pushR_none, va_rf_some, va_rf_none, true_and, and_true, true_implies, false_implies, not_true_eq_false, not_false_eq_true, implies_true, bI_eq0, bI_eq1, bI_01, Classical.not_not, or_em, false_and, and_false, h1, h1', bI]
  · have h1' : (48 ≤ x) = True := eq_true (Int32.not_lt.mp h1)
    by_cases h2 : x ≤ 57
    · have h2' : (57 < x) = False := eq_false (Int32.not_lt.mpr h2)
      simp +decide only [e_60_0, e_60_1, e_60_3, e_60_6, e_60_7, e_60_9, e_60_12, e_60_13, e_60_16, e_60_17, ↓reduceIte, Int32.reduceAdd, Int32.reduceSub, an_0, an_1, an_2, an_3, an_4, an_5, tc_0, tc_1, tc_2, tc_3, tc_4, tc_5, tc_6, tc_7, tc_8, tc_9, tc_10, tc_11, tc_12, tc_13, tc_14, tc_15, tc_16, tc_17, tc_18, tc_19, tc_20, tc_21, tc_22, tc_23, tc_24, tc_25, tc_26, tc_27, tc_28, tc_29, tc_30, tc_31, tc_32, lcl_none, lcl_int, lcl_ref, lcl_null, lcl_long, okR_nil, okR_int, okR_ref, okR_null, okR_long, pushR_some, pushR_none, va_rf_some, va_rf_none, true_and, and_true, true_implies, false_implies, not_true_eq_false, not_false_eq_true, implies_true, bI_eq0, bI_eq1, bI_01, Classical.not_not, or_em, false_and, and_false, h1, h1', h2, h2', bI]
    · have h2' : (57 < x) = True := eq_true (Int32.not_le.mp h2)
      simp +decide only [e_60_0, e_60_1, e_60_3, e_60_6, e_60_7, e_60_9, e_60_12, e_60_13, e_60_16, e_60_17, ↓reduceIte, Int32.reduceAdd, Int32.reduceSub, an_0, an_1, an_2, an_3, an_4, an_5, tc_0, tc_1, tc_2, tc_3, tc_4, tc_5, tc_6, tc_7, tc_8, tc_9, tc_10, tc_11, tc_12, tc_13, tc_14, tc_15, tc_16, tc_17, tc_18, tc_19, tc_20, tc_21, tc_22, tc_23, tc_24, tc_25, tc_26, tc_27, tc_28, tc_29, tc_30, tc_31, tc_32, lcl_none, lcl_int, lcl_ref, lcl_null, lcl_long, okR_nil, okR_int, okR_ref, okR_null, okR_long, pushR_some, pushR_none, va_rf_some, va_rf_none, true_and, and_true, true_implies, false_implies, not_true_eq_false, not_false_eq_true, implies_true, bI_eq0, bI_eq1, bI_01, Classical.not_not, or_em, false_and, and_false, h1, h1', h2, h2', bI]
theorem c_note {d p : Nat} {b : Bool} {k f kd v : Int32} {M : ab_M} {K : ab_Q} (hd : 1 ≤ d) (hS0 : Sh b M) : EvD d 61 [.ref 1, .int kd, .int v] (tx M p k f) K = K none (tx M p (if k = 0 then kd else k) (if k = 0 then v else f)) := by
  have hS : Sh b (tx M p k f) := hS0
  have hk1 : ∀ p k f, mK (tx M p k f) 1 = 8 := fun _ _ _ => by show mK M 1 = 8; rw [hS0.1]; rfl
  rw [b_61 hd]
  by_cases h : k = 0
  · have h' : (k = 0) = True := eq_true h
    simp +decide only [e_61_0, e_61_1, e_61_4, e_61_7, e_61_8, e_61_9, e_61_12, e_61_13, e_61_14, e_61_17, ↓reduceIte, Int32.reduceAdd, Int32.reduceSub, an_0, an_1, an_2, an_3, an_4, an_5, tc_0, tc_1, tc_2, tc_3, tc_4, tc_5, tc_6, tc_7, tc_8, tc_9, tc_10, tc_11, tc_12, tc_13, tc_14, tc_15, tc_16, tc_17, tc_18, tc_19, tc_20, tc_21, tc_22, tc_23, tc_24, tc_25, tc_26, tc_27, tc_28, tc_29, tc_30, tc_31, tc_32, lcl_none, lcl_int, lcl_ref, lcl_null, lcl_long, okR_nil, okR_int, okR_ref, okR_null, okR_long, pushR_some, pushR_none, va_rf_some, va_rf_none, true_and, and_true, true_implies, false_implies, not_true_eq_false, not_false_eq_true, implies_true, bI_eq0, bI_eq1, bI_01, Classical.not_not, or_em, false_and, and_false, hS.1, hS.2.1, hS.2.2.1, hS.2.2.2.1, kT_0, kT_1, kT_2, kT_15, kT_16, kT_17, kT_18, kT_19, kT_80, kT_81, kT_82, kT_89, kT_90, kT_91, kT_92, kT_93, kT_94, kT_95, kT_96, kT_97, kT_98, kT_99, kT_100, kT_101, nT_2, nT_16, nT_17, nT_19, nT_81, nT_82, nT_90, nT_91, nT_94, nT_95, nT_97, nT_98, nT_100, nT_101, rT_0_0, rT_0_3, rT_0_4, rT_0_5, rT_0_6, rT_0_7, rT_0_8, rT_0_9, rT_0_10, rT_1_0, rT_15_0, rT_15_1, rT_18_0, rT_80_0, rT_80_1, rT_89_0, rT_89_1, rT_93_6, rT_93_7, rT_96_0, rT_96_1, rT_99_0, rT_99_1, hk1, tx_3, h', mK_wI, tx_wk, tx_wf]
  · have h' : (k = 0) = False := eq_false h
    simp +decide only [e_61_0, e_61_1, e_61_4, e_61_7, e_61_8, e_61_9, e_61_12, e_61_13, e_61_14, e_61_17, ↓reduceIte, Int32.reduceAdd, Int32.reduceSub, an_0, an_1, an_2, an_3, an_4, an_5, tc_0, tc_1, tc_2, tc_3, tc_4, tc_5, tc_6, tc_7, tc_8, tc_9, tc_10, tc_11, tc_12, tc_13, tc_14, tc_15, tc_16, tc_17, tc_18, tc_19, tc_20, tc_21, tc_22, tc_23, tc_24, tc_25, tc_26, tc_27, tc_28, tc_29, tc_30, tc_31, tc_32, lcl_none, lcl_int, lcl_ref, lcl_null, lcl_long, okR_nil, okR_int, okR_ref, okR_null, okR_long, pushR_some, pushR_none, va_rf_some, va_rf_none, true_and, and_true, true_implies, false_implies, not_true_eq_false, not_false_eq_true, implies_true, bI_eq0, bI_eq1, bI_01, Classical.not_not, or_em, false_and, and_false, hS.1, hS.2.1, hS.2.2.1, hS.2.2.2.1, kT_0, kT_1, kT_2, kT_15, kT_16, kT_17, kT_18, kT_19, kT_80, kT_81, kT_82, kT_89, kT_90, kT_91, kT_92, kT_93, kT_94, kT_95, kT_96, kT_97, kT_98, kT_99, kT_100, kT_101, nT_2, nT_16, nT_17, nT_19, nT_81, nT_82, nT_90, nT_91, nT_94, nT_95, nT_97, nT_98, nT_100, nT_101, rT_0_0, rT_0_3, rT_0_4, rT_0_5, rT_0_6, rT_0_7, rT_0_8, rT_0_9, rT_0_10, rT_1_0, rT_15_0, rT_15_1, rT_18_0, rT_80_0, rT_80_1, rT_89_0, rT_89_1, rT_93_6, rT_93_7, rT_96_0, rT_96_1, rT_99_0, rT_99_1, tx_3, h']
theorem L_skip {N : Nat} {b : Bool} {T : Nat → Int32} {k f : Int32} {M : ab_M} {K : ab_Q} (hT : TT b M T N) : ∀ q p, N - p = q → p ≤ N → Ev 1 58 0 [some (.ref 1)] [] (tx M p k f) K = K none (tx M (skF T q p) k f) := by
  have hT0 := hT
  obtain ⟨hS0, h1, hN, ht⟩ := hT
  intro q
  induction q with
  | zero =>
    intro p hq hp
    have hS : Sh b (tx M p k f) := hS0
    have e1 : mI (tx M p k f) 1 1 = nI N := by rw [tx_1]; exact h1
    have z1 : (nI N ≤ nI p) = True := by rw [nI_leE (by omega) (by omega)]; exact eq_true (by omega)
    rw [e_58_0]
    simp +decide only [e_58_1, e_58_4, e_58_5, e_58_8, e_58_11, e_58_12, e_58_15, e_58_17, e_58_20, e_58_21, e_58_21r, e_58_22, e_58_25, e_58_26, e_58_27, e_58_30, e_58_33, ↓reduceIte, Int32.reduceAdd, Int32.reduceSub, an_0, an_1, an_2, an_3, an_4, an_5, tc_0, tc_1, tc_2, tc_3, tc_4, tc_5, tc_6, tc_7, tc_8, tc_9, tc_10, tc_11, tc_12, tc_13, tc_14, tc_15, tc_16, tc_17, tc_18, tc_19, tc_20, tc_21, tc_22, tc_23, tc_24, tc_25, tc_26, tc_27, tc_28, tc_29, tc_30, tc_31, tc_32, lcl_none, lcl_int, lcl_ref, lcl_null, lcl_long, okR_nil, okR_int, okR_ref, okR_null, okR_long, pushR_some, pushR_none, va_rf_some, va_rf_none, true_and, and_true, true_implies, false_implies, not_true_eq_false, not_false_eq_true, implies_true, bI_eq0, bI_eq1, bI_01, Classical.not_not, or_em, false_and, and_false, hS.1, hS.2.1, hS.2.2.1, hS.2.2.2.1, kT_0, kT_1, kT_2, kT_15, kT_16, kT_17, kT_18, kT_19, kT_80, kT_81, kT_82, kT_89, kT_90, kT_91, kT_92, kT_93, kT_94, kT_95, kT_96, kT_97, kT_98, kT_99, kT_100, kT_101, nT_2, nT_16, nT_17, nT_19, nT_81, nT_82, nT_90, nT_91, nT_94, nT_95, nT_97, nT_98, nT_100, nT_101, rT_0_0, rT_0_3, rT_0_4, rT_0_5, rT_0_6, rT_0_7, rT_0_8, rT_0_9, rT_0_10, rT_1_0, rT_15_0, rT_15_1, rT_18_0, rT_80_0, rT_80_1, rT_89_0, rT_89_1, rT_93_6, rT_93_7, rT_96_0, rT_96_1, rT_99_0, rT_99_1, tx_2, e1, z1]
    rfl
  | succ q ih =>
    intro p hq hp
    have hS : Sh b (tx M p k f) := hS0
    have e1 : mI (tx M p k f) 1 1 = nI N := by rw [tx_1]; exact h1
    have z1 : (nI N ≤ nI p) = False := by rw [nI_leE (by omega) (by omega)]; exact eq_false (by omega)
    have hl : ∀ K, EvD 1 59 [.ref 1] (tx M p k f) K = K (some (.int (T p))) (tx M p k f) := fun K => by rw [c_letter (d := 1) (Nat.le_refl 1) hT0 hp, if_pos (by omega)]
    rw [e_58_0]
    by_cases h32 : T p = 32
    · have h32' : (T p = 32) = True := eq_true h32
      have e : skF T (q + 1) p = skF T q (p + 1) := by show (if T p = 32 then skF T q (p + 1) else p) = _; rw [if_pos h32]
      simp +decide only [e_58_1, e_58_4, e_58_5, e_58_8, e_58_11, e_58_12, e_58_15, e_58_17, e_58_20, e_58_21, e_58_21r, e_58_22, e_58_25, e_58_26, e_58_27, e_58_30, ↓reduceIte, Int32.reduceAdd, Int32.reduceSub, an_0, an_1, an_2, an_3, an_4, an_5, tc_0, tc_1, tc_2, tc_3, tc_4, tc_5, tc_6, tc_7, tc_8, tc_9, tc_10, tc_11, tc_12, tc_13, tc_14, tc_15, tc_16, tc_17, tc_18, tc_19, tc_20, tc_21, tc_22, tc_23, tc_24, tc_25, tc_26, tc_27, tc_28, tc_29, tc_30, tc_31, tc_32, lcl_none, lcl_int, lcl_ref, lcl_null, lcl_long, okR_nil, okR_int, okR_ref, okR_null, okR_long, pushR_some, pushR_none, va_rf_some, va_rf_none, true_and, and_true, true_implies, false_implies, not_true_eq_false, not_false_eq_true, implies_true, bI_eq0, bI_eq1, bI_01, Classical.not_not, or_em, false_and, and_false, hS.1, hS.2.1, hS.2.2.1, hS.2.2.2.1, kT_0, kT_1, kT_2, kT_15, kT_16, kT_17, kT_18, kT_19, kT_80, kT_81, kT_82, kT_89, kT_90, kT_91, kT_92, kT_93, kT_94, kT_95, kT_96, kT_97, kT_98, kT_99, kT_100, kT_101, nT_2, nT_16, nT_17, nT_19, nT_81, nT_82, nT_90, nT_91, nT_94, nT_95, nT_97, nT_98, nT_100, nT_101, rT_0_0, rT_0_3, rT_0_4, rT_0_5, rT_0_6, rT_0_7, rT_0_8, rT_0_9, rT_0_10, rT_1_0, rT_15_0, rT_15_1, rT_18_0, rT_80_0, rT_80_1, rT_89_0, rT_89_1, rT_93_6, rT_93_7, rT_96_0, rT_96_1, rT_99_0, rT_99_1, tx_2, e1, z1, hl, h32', nI_1, tx_wp]
      rw [e]
      exact ih (p + 1) (by omega) (by omega)
    · have h32' : (T p = 32) = False := eq_false h32
      have e : skF T (q + 1) p = p := by show (if T p = 32 then skF T q (p + 1) else p) = _; rw [if_neg h32]
      simp +decide only [e_58_1, e_58_4, e_58_5, e_58_8, e_58_11, e_58_12, e_58_15, e_58_17, e_58_20, e_58_21, e_58_21r, e_58_22, e_58_25, e_58_26, e_58_27, e_58_30, e_58_33, ↓reduceIte, Int32.reduceAdd, Int32.reduceSub, an_0, an_1, an_2, an_3, an_4, an_5, tc_0, tc_1, tc_2, tc_3, tc_4, tc_5, tc_6, tc_7, tc_8, tc_9, tc_10, tc_11, tc_12, tc_13, tc_14, tc_15, tc_16, tc_17, tc_18, tc_19, tc_20, tc_21, tc_22, tc_23, tc_24, tc_25, tc_26, tc_27, tc_28, tc_29, tc_30, tc_31, tc_32, lcl_none, lcl_int, lcl_ref, lcl_null, lcl_long, okR_nil, okR_int, okR_ref, okR_null, okR_long, pushR_some, pushR_none, va_rf_some, va_rf_none, true_and, and_true, true_implies, false_implies, not_true_eq_false, not_false_eq_true, implies_true, bI_eq0, bI_eq1, bI_01, Classical.not_not, or_em, false_and, and_false, hS.1, hS.2.1, hS.2.2.1, hS.2.2.2.1, kT_0, kT_1, kT_2, kT_15, kT_16, kT_17, kT_18, kT_19, kT_80, kT_81, kT_82, kT_89, kT_90, kT_91, kT_92, kT_93, kT_94, kT_95, kT_96, kT_97, kT_98, kT_99, kT_100, kT_101, nT_2, nT_16, nT_17, nT_19, nT_81, nT_82, nT_90, nT_91, nT_94, nT_95, nT_97, nT_98, nT_100, nT_101, rT_0_0, rT_0_3, rT_0_4, rT_0_5, rT_0_6, rT_0_7, rT_0_8, rT_0_9, rT_0_10, rT_1_0, rT_15_0, rT_15_1, rT_18_0, rT_80_0, rT_80_1, rT_89_0, rT_89_1, rT_93_6, rT_93_7, rT_96_0, rT_96_1, rT_99_0, rT_99_1, tx_2, e1, z1, hl, h32']
      rw [e]
theorem c_skip {d p N : Nat} {b : Bool} {T : Nat → Int32} {k f : Int32} {M : ab_M} {K : ab_Q} (hd : 2 ≤ d) (hT : TT b M T N) (hp : p ≤ N) : EvD d 58 [.ref 1] (tx M p k f) K = K none (tx M (skP T N p) k f) := by
  rw [b_58 hd]
  exact L_skip hT (N - p) p rfl hp
theorem L_num {N : Nat} {b : Bool} {T : Nat → Int32} {k f most fst : Int32} {M : ab_M} {K : ab_Q} (hT : TT b M T N) : ∀ q p g v, N - p = q → p ≤ N → g ≤ p → Ev 2 56 14 [some (.ref 1), some (.int most), some (.int fst), some (.int (nI g)), some (.int (nI v))] [] (tx M p k f) K = Ev 2 56 71 [some (.ref 1), some (.int most), some (.int fst), some (.int (nI (rdF T q p g v).2.1)), some (.int (nI (rdF T q p g v).2.2))] [] (tx M (rdF T q p g v).1 k f) K := by
  have hT0 := hT
  obtain ⟨hS0, h1, hN, ht⟩ := hT
  intro q
  induction q with
  | zero =>
    intro p g v hq hp hg
    have hS : Sh b (tx M p k f) := hS0
    have e1 : mI (tx M p k f) 1 1 = nI N := by rw [tx_1]; exact h1
    have z1 : (nI N ≤ nI p) = True := by rw [nI_leE (by omega) (by omega)]; exact eq_true (by omega)
    rw [e_56_14]
    simp +decide only [e_56_15, e_56_18, e_56_19, e_56_22, ↓reduceIte, Int32.reduceAdd, Int32.reduceSub, an_0, an_1, an_2, an_3, an_4, an_5, tc_0, tc_1, tc_2, tc_3, tc_4, tc_5, tc_6, tc_7, tc_8, tc_9, tc_10, tc_11, tc_12, tc_13, tc_14, tc_15, tc_16, tc_17, tc_18, tc_19, tc_20, tc_21, tc_22, tc_23, tc_24, tc_25, tc_26, tc_27, tc_28, tc_29, tc_30, tc_31, tc_32, lcl_none, lcl_int, lcl_ref, lcl_null, lcl_long, okR_nil, okR_int, okR_ref, okR_null, okR_long, pushR_some, pushR_none, va_rf_some, va_rf_none, true_and, and_true, true_implies, false_implies, not_true_eq_false, not_false_eq_true, implies_true, bI_eq0, bI_eq1, bI_01, Classical.not_not, or_em, false_and, and_false, hS.1, hS.2.1, hS.2.2.1, hS.2.2.2.1, kT_0, kT_1, kT_2, kT_15, kT_16, kT_17, kT_18, kT_19, kT_80, kT_81, kT_82, kT_89, kT_90, kT_91, kT_92, kT_93, kT_94, kT_95, kT_96, kT_97, kT_98, kT_99, kT_100, kT_101, nT_2, nT_16, nT_17, nT_19, nT_81, nT_82, nT_90, nT_91, nT_94, nT_95, nT_97, nT_98, nT_100, nT_101, rT_0_0, rT_0_3, rT_0_4, rT_0_5, rT_0_6, rT_0_7, rT_0_8, rT_0_9, rT_0_10, rT_1_0, rT_15_0, rT_15_1, rT_18_0, rT_80_0, rT_80_1, rT_89_0, rT_89_1, rT_93_6, rT_93_7, rT_96_0, rT_96_1, rT_99_0, rT_99_1, tx_2, e1, z1, rdF]
  | succ q ih =>
    intro p g v hq hp hg
    have hS : Sh b (tx M p k f) := hS0
    have e1 : mI (tx M p k f) 1 1 = nI N := by rw [tx_1]; exact h1
    have z1 : (nI N ≤ nI p) = False := by rw [nI_leE (by omega) (by omega)]; exact eq_false (by omega)
    have hl : ∀ K, EvD 2 59 [.ref 1] (tx M p k f) K = K (some (.int (T p))) (tx M p k f) := fun K => by rw [c_letter (d := 2) (by decide) hT0 hp, if_pos (by omega)]
    have er : rdF T (q + 1) p g v = if fig (T p) then rdF T q (p + 1) (g + 1) (if g < 3 then 10 * v + dgN (T p) else v) else (p, g, v) := rfl
    rw [e_56_14]
    by_cases hfg : fig (T p)
    · have hfg' : fig (T p) = True := eq_true hfg
      obtain ⟨d1, d2⟩ := fig_d hfg
      rw [if_pos hfg] at er
      rw [er]
      by_cases h3 : g < 3
      · have h3' : (3 < nI (g + 1)) = False := by rw [show (3 : Int32) = nI 3 from rfl, nI_ltE (by decide) (by omega)]; exact eq_false (by omega)
        have h3'' : (nI (g + 1) ≤ 3) = True := by rw [show (3 : Int32) = nI 3 from rfl, nI_leE (by omega) (by decide)]; exact eq_true (by omega)
        have ev : 10 * nI v + T p - 48 = nI (10 * v + dgN (T p)) := by
          rw [show (10 : Int32) * nI v = nI (10 * v) from pk_mul 10 v, d2, nI_add, show (48 : Int32) = nI 48 from rfl, pk_sub (by omega), ← d2]
          congr 1
          omega
        have hih := ih (p + 1) (g + 1) (10 * v + dgN (T p)) (by omega) (by omega) (by omega)
        rw [if_pos h3]
        simp +decide only [e_56_15, e_56_18, e_56_19, e_56_22, e_56_25, e_56_26, e_56_29, e_56_32, e_56_35, e_56_38, e_56_39, e_56_40, e_56_43, e_56_45, e_56_47, e_56_48, e_56_49, e_56_52, e_56_53, e_56_55, e_56_56, e_56_58, e_56_59, e_56_59r, e_56_60, e_56_63, e_56_64, e_56_65, e_56_68, ↓reduceIte, Int32.reduceAdd, Int32.reduceSub, an_0, an_1, an_2, an_3, an_4, an_5, tc_0, tc_1, tc_2, tc_3, tc_4, tc_5, tc_6, tc_7, tc_8, tc_9, tc_10, tc_11, tc_12, tc_13, tc_14, tc_15, tc_16, tc_17, tc_18, tc_19, tc_20, tc_21, tc_22, tc_23, tc_24, tc_25, tc_26, tc_27, tc_28, tc_29, tc_30, tc_31, tc_32, lcl_none, lcl_int, lcl_ref, lcl_null, lcl_long, okR_nil, okR_int, okR_ref, okR_null, okR_long, pushR_some, pushR_none, va_rf_some, va_rf_none, true_and, and_true, true_implies, false_implies, not_true_eq_false, not_false_eq_true, implies_true, bI_eq0, bI_eq1, bI_01, Classical.not_not, or_em, false_and, and_false, hS.1, hS.2.1, hS.2.2.1, hS.2.2.2.1, kT_0, kT_1, kT_2, kT_15, kT_16, kT_17, kT_18, kT_19, kT_80, kT_81, kT_82, kT_89, kT_90, kT_91, kT_92, kT_93, kT_94, kT_95, kT_96, kT_97, kT_98, kT_99, kT_100, kT_101, nT_2, nT_16, nT_17, nT_19, nT_81, nT_82, nT_90, nT_91, nT_94, nT_95, nT_97, nT_98, nT_100, nT_101, rT_0_0, rT_0_3, rT_0_4, rT_0_5, rT_0_6, rT_0_7, rT_0_8, rT_0_9, rT_0_10, rT_1_0, rT_15_0, rT_15_1, rT_18_0, rT_80_0, rT_80_1, rT_89_0, rT_89_1, rT_93_6, rT_93_7, rT_96_0, rT_96_1, rT_99_0, rT_99_1, tx_2, e1, z1, hl, c_isFig (d := 2) (by decide), hfg', nI_1, h3', h3'', ev, tx_wp]
        exact hih
      · have h3' : (3 < nI (g + 1)) = True := by rw [show (3 : Int32) = nI 3 from rfl, nI_ltE (by decide) (by omega)]; exact eq_true (by omega)
        have h3'' : (nI (g + 1) ≤ 3) = False := by rw [show (3 : Int32) = nI 3 from rfl, nI_leE (by omega) (by decide)]; exact eq_false (by omega)
        rw [if_neg h3]
        simp +decide only [e_56_15, e_56_18, e_56_19, e_56_22, e_56_25, e_56_26, e_56_29, e_56_32, e_56_35, e_56_38, e_56_39, e_56_40, e_56_43, e_56_45, e_56_47, e_56_48, e_56_49, e_56_52, e_56_53, e_56_55, e_56_56, e_56_58, e_56_59, e_56_59r, e_56_60, e_56_63, e_56_64, e_56_65, e_56_68, ↓reduceIte, Int32.reduceAdd, Int32.reduceSub, an_0, an_1, an_2, an_3, an_4, an_5, tc_0, tc_1, tc_2, tc_3, tc_4, tc_5, tc_6, tc_7, tc_8, tc_9, tc_10, tc_11, tc_12, tc_13, tc_14, tc_15, tc_16, tc_17, tc_18, tc_19, tc_20, tc_21, tc_22, tc_23, tc_24, tc_25, tc_26, tc_27, tc_28, tc_29, tc_30, tc_31, tc_32, lcl_none, lcl_int, lcl_ref, lcl_null, lcl_long, okR_nil, okR_int, okR_ref, okR_null, okR_long, pushR_some, pushR_none, va_rf_some, va_rf_none, true_and, and_true, true_implies, false_implies, not_true_eq_false, not_false_eq_true, implies_true, bI_eq0, bI_eq1, bI_01, Classical.not_not, or_em, false_and, and_false, hS.1, hS.2.1, hS.2.2.1, hS.2.2.2.1, kT_0, kT_1, kT_2, kT_15, kT_16, kT_17, kT_18, kT_19, kT_80, kT_81, kT_82, kT_89, kT_90, kT_91, kT_92, kT_93, kT_94, kT_95, kT_96, kT_97, kT_98, kT_99, kT_100, kT_101, nT_2, nT_16, nT_17, nT_19, nT_81, nT_82, nT_90, nT_91, nT_94, nT_95, nT_97, nT_98, nT_100, nT_101, rT_0_0, rT_0_3, rT_0_4, rT_0_5, rT_0_6, rT_0_7, rT_0_8, rT_0_9, rT_0_10, rT_1_0, rT_15_0, rT_15_1, rT_18_0, rT_80_0, rT_80_1, rT_89_0, rT_89_1, rT_93_6, rT_93_7, rT_96_0, rT_96_1, rT_99_0, rT_99_1, tx_2, e1, z1, hl, c_isFig (d := 2) (by decide), hfg', nI_1, h3', h3'', tx_wp]
        exact ih (p + 1) (g + 1) v (by omega) (by omega) (by omega)
    · have hfg' : fig (T p) = False := eq_false hfg
      rw [if_neg hfg] at er
      rw [er]
      simp +decide only [e_56_15, e_56_18, e_56_19, e_56_22, e_56_25, e_56_26, e_56_29, e_56_32, ↓reduceIte, Int32.reduceAdd, Int32.reduceSub, an_0, an_1, an_2, an_3, an_4, an_5, tc_0, tc_1, tc_2, tc_3, tc_4, tc_5, tc_6, tc_7, tc_8, tc_9, tc_10, tc_11, tc_12, tc_13, tc_14, tc_15, tc_16, tc_17, tc_18, tc_19, tc_20, tc_21, tc_22, tc_23, tc_24, tc_25, tc_26, tc_27, tc_28, tc_29, tc_30, tc_31, tc_32, lcl_none, lcl_int, lcl_ref, lcl_null, lcl_long, okR_nil, okR_int, okR_ref, okR_null, okR_long, pushR_some, pushR_none, va_rf_some, va_rf_none, true_and, and_true, true_implies, false_implies, not_true_eq_false, not_false_eq_true, implies_true, bI_eq0, bI_eq1, bI_01, Classical.not_not, or_em, false_and, and_false, hS.1, hS.2.1, hS.2.2.1, hS.2.2.2.1, kT_0, kT_1, kT_2, kT_15, kT_16, kT_17, kT_18, kT_19, kT_80, kT_81, kT_82, kT_89, kT_90, kT_91, kT_92, kT_93, kT_94, kT_95, kT_96, kT_97, kT_98, kT_99, kT_100, kT_101, nT_2, nT_16, nT_17, nT_19, nT_81, nT_82, nT_90, nT_91, nT_94, nT_95, nT_97, nT_98, nT_100, nT_101, rT_0_0, rT_0_3, rT_0_4, rT_0_5, rT_0_6, rT_0_7, rT_0_8, rT_0_9, rT_0_10, rT_1_0, rT_15_0, rT_15_1, rT_18_0, rT_80_0, rT_80_1, rT_89_0, rT_89_1, rT_93_6, rT_93_7, rT_96_0, rT_96_1, rT_99_0, rT_99_1, tx_2, e1, z1, hl, c_isFig (d := 2) (by decide), hfg']
theorem c_readNum {d p N : Nat} {b : Bool} {T : Nat → Int32} {k f most : Int32} {M : ab_M} {K : ab_Q} (hd : 3 ≤ d) (hT : TT b M T N) (hp : p ≤ N) : EvD d 56 [.ref 1, .int most] (tx M p k f) K = K (some (.int (nI (nvP T N p)))) (tx M (npP T N p) (nt k (nkP T N p most)) (nf k f (nkP T N p most) (skP T N p))) := by
  have hS0 := hT.1
  have hN := hT.2.2.1
  have hsk := skP_le (T := T) hp
  have hnp := npP_le (T := T) hp
  have hS : Sh b (tx M (skP T N p) k f) := hS0
  have hS1 : Sh b (tx M (npP T N p) k f) := hS0
  have hloop := L_num (k := k) (f := f) (most := most) (fst := nI (skP T N p)) (M := M) (K := K) hT (N - skP T N p) (skP T N p) 0 0 rfl hsk.2 (by omega)
  have hg0 : (nI (ngP T N p) = 0) = (ngP T N p = 0) := nI_0E (by omega)
  have hg3 : (nI (ngP T N p) ≤ 3) = (ngP T N p ≤ 3) := nI_leE (b := 3) (by omega) (by decide)
  have hg3' : (3 < nI (ngP T N p)) = (3 < ngP T N p) := nI_ltE (a := 3) (by decide) (by omega)
  have hsk2 : ∀ K, EvD 2 58 [.ref 1] (tx M p k f) K = K none (tx M (skP T N p) k f) := fun K => c_skip (d := 2) (by decide) hT hp
  have hk1 : ∀ p k f, mK (tx M p k f) 1 = 8 := fun _ _ _ => by show mK M 1 = 8; rw [hS0.1]; rfl
  rw [b_56 hd]
  simp +decide only [e_56_0, e_56_1, e_56_4, e_56_5, e_56_8, e_56_9, e_56_10, e_56_11, e_56_12, ↓reduceIte, Int32.reduceAdd, Int32.reduceSub, an_0, an_1, an_2, an_3, an_4, an_5, tc_0, tc_1, tc_2, tc_3, tc_4, tc_5, tc_6, tc_7, tc_8, tc_9, tc_10, tc_11, tc_12, tc_13, tc_14, tc_15, tc_16, tc_17, tc_18, tc_19, tc_20, tc_21, tc_22, tc_23, tc_24, tc_25, tc_26, tc_27, tc_28, tc_29, tc_30, tc_31, tc_32, lcl_none, lcl_int, lcl_ref, lcl_null, lcl_long, okR_nil, okR_int, okR_ref, okR_null, okR_long, pushR_some, pushR_none, va_rf_some, va_rf_none, true_and, and_true, true_implies, false_implies, not_true_eq_false, not_false_eq_true, implies_true, bI_eq0, bI_eq1, bI_01, Classical.not_not, or_em, false_and, and_false, hS.1, hS.2.1, hS.2.2.1, hS.2.2.2.1, kT_0, kT_1, kT_2, kT_15, kT_16, kT_17, kT_18, kT_19, kT_80, kT_81, kT_82, kT_89, kT_90, kT_91, kT_92, kT_93, kT_94, kT_95, kT_96, kT_97, kT_98, kT_99, kT_100, kT_101, nT_2, nT_16, nT_17, nT_19, nT_81, nT_82, nT_90, nT_91, nT_94, nT_95, nT_97, nT_98, nT_100, nT_101, rT_0_0, rT_0_3, rT_0_4, rT_0_5, rT_0_6, rT_0_7, rT_0_8, rT_0_9, rT_0_10, rT_1_0, rT_15_0, rT_15_1, rT_18_0, rT_80_0, rT_80_1, rT_89_0, rT_89_1, rT_93_6, rT_93_7, rT_96_0, rT_96_1, rT_99_0, rT_99_1, hk1, hsk2, tx_2]
  show Ev 2 56 14 [some (.ref 1), some (.int most), some (.int (nI (skP T N p))), some (.int (nI 0)), some (.int (nI 0))] [] (tx M (skP T N p) k f) K = _
  refine hloop.trans ?_
  show Ev 2 56 71 [some (.ref 1), some (.int most), some (.int (nI (skP T N p))), some (.int (nI (ngP T N p))), some (.int (nI (nvP T N p)))] [] (tx M (npP T N p) k f) K = _
  by_cases h1 : ngP T N p = 0
  · have ek : nkP T N p most = 1 := by unfold nkP; rw [if_pos h1]
    have hz : (ngP T N p = 0) = True := eq_true h1
    simp +decide only [e_56_71, e_56_72, e_56_75, e_56_76, e_56_77, e_56_78, e_56_81, e_56_84, e_56_85, e_56_86, e_56_89, e_56_91, e_56_92, e_56_95, e_56_96, e_56_97, e_56_98, e_56_101, e_56_103, ↓reduceIte, Int32.reduceAdd, Int32.reduceSub, an_0, an_1, an_2, an_3, an_4, an_5, tc_0, tc_1, tc_2, tc_3, tc_4, tc_5, tc_6, tc_7, tc_8, tc_9, tc_10, tc_11, tc_12, tc_13, tc_14, tc_15, tc_16, tc_17, tc_18, tc_19, tc_20, tc_21, tc_22, tc_23, tc_24, tc_25, tc_26, tc_27, tc_28, tc_29, tc_30, tc_31, tc_32, lcl_none, lcl_int, lcl_ref, lcl_null, lcl_long, okR_nil, okR_int, okR_ref, okR_null, okR_long, pushR_some, pushR_none, va_rf_some, va_rf_none, true_and, and_true, true_implies, false_implies, not_true_eq_false, not_false_eq_true, implies_true, bI_eq0, bI_eq1, bI_01, Classical.not_not, or_em, false_and, and_false, hS1.1, kT_1, hg0, hz, c_note (d := 2) (by decide) hS0]
    rw [ek]
    unfold nt nf
    by_cases hk : k = 0 <;> simp [hk]
  · have hz : (ngP T N p = 0) = False := eq_false h1
    by_cases h2 : 3 < ngP T N p
    · have ek : nkP T N p most = 2 := by unfold nkP; rw [if_neg h1, if_pos (Or.inl h2)]
      have h2' : (3 < ngP T N p) = True := eq_true h2
      have h2'' : (ngP T N p ≤ 3) = False := eq_false (by omega)
      simp +decide only [e_56_71, e_56_72, e_56_75, e_56_76, e_56_77, e_56_78, e_56_81, e_56_84, e_56_85, e_56_86, e_56_89, e_56_91, e_56_92, e_56_95, e_56_96, e_56_97, e_56_98, e_56_101, e_56_103, ↓reduceIte, Int32.reduceAdd, Int32.reduceSub, an_0, an_1, an_2, an_3, an_4, an_5, tc_0, tc_1, tc_2, tc_3, tc_4, tc_5, tc_6, tc_7, tc_8, tc_9, tc_10, tc_11, tc_12, tc_13, tc_14, tc_15, tc_16, tc_17, tc_18, tc_19, tc_20, tc_21, tc_22, tc_23, tc_24, tc_25, tc_26, tc_27, tc_28, tc_29, tc_30, tc_31, tc_32, lcl_none, lcl_int, lcl_ref, lcl_null, lcl_long, okR_nil, okR_int, okR_ref, okR_null, okR_long, pushR_some, pushR_none, va_rf_some, va_rf_none, true_and, and_true, true_implies, false_implies, not_true_eq_false, not_false_eq_true, implies_true, bI_eq0, bI_eq1, bI_01, Classical.not_not, or_em, false_and, and_false, hS1.1, kT_1, hg0, hz, hg3, hg3', h2', h2'', c_note (d := 2) (by decide) hS0]
      rw [ek]
      unfold nt nf
      by_cases hk : k = 0 <;> simp [hk]
    · have h2' : (3 < ngP T N p) = False := eq_false h2
      have h2'' : (ngP T N p ≤ 3) = True := eq_true (by omega)
      by_cases h3 : most < nI (nvP T N p)
      · have ek : nkP T N p most = 2 := by unfold nkP; rw [if_neg h1, if_pos (Or.inr h3)]
        have h3' : (most < nI (nvP T N p)) = True := eq_true h3
        have h3'' : (nI (nvP T N p) ≤ most) = False := eq_false (Int32.not_le.mpr h3)
        simp +decide only [e_56_71, e_56_72, e_56_75, e_56_76, e_56_77, e_56_78, e_56_81, e_56_84, e_56_85, e_56_86, e_56_89, e_56_91, e_56_92, e_56_95, e_56_96, e_56_97, e_56_98, e_56_101, e_56_103, ↓reduceIte, Int32.reduceAdd, Int32.reduceSub, an_0, an_1, an_2, an_3, an_4, an_5, tc_0, tc_1, tc_2, tc_3, tc_4, tc_5, tc_6, tc_7, tc_8, tc_9, tc_10, tc_11, tc_12, tc_13, tc_14, tc_15, tc_16, tc_17, tc_18, tc_19, tc_20, tc_21, tc_22, tc_23, tc_24, tc_25, tc_26, tc_27, tc_28, tc_29, tc_30, tc_31, tc_32, lcl_none, lcl_int, lcl_ref, lcl_null, lcl_long, okR_nil, okR_int, okR_ref, okR_null, okR_long, pushR_some, pushR_none, va_rf_some, va_rf_none, true_and, and_true, true_implies, false_implies, not_true_eq_false, not_false_eq_true, implies_true, bI_eq0, bI_eq1, bI_01, Classical.not_not, or_em, false_and, and_false, hS1.1, kT_1, hg0, hz, hg3, hg3', h2', h2'', h3', h3'', c_note (d := 2) (by decide) hS0]
        rw [ek]
        unfold nt nf
        by_cases hk : k = 0 <;> simp [hk]
      · have ek : nkP T N p most = 0 := by unfold nkP; rw [if_neg h1, if_neg (fun z => z.elim h2 h3)]
        have h3' : (most < nI (nvP T N p)) = False := eq_false h3
        have h3'' : (nI (nvP T N p) ≤ most) = True := eq_true (Int32.not_lt.mp h3)
        simp +decide only [e_56_71, e_56_72, e_56_75, e_56_76, e_56_77, e_56_78, e_56_81, e_56_84, e_56_85, e_56_86, e_56_89, e_56_91, e_56_92, e_56_95, e_56_96, e_56_97, e_56_98, e_56_101, e_56_103, ↓reduceIte, Int32.reduceAdd, Int32.reduceSub, an_0, an_1, an_2, an_3, an_4, an_5, tc_0, tc_1, tc_2, tc_3, tc_4, tc_5, tc_6, tc_7, tc_8, tc_9, tc_10, tc_11, tc_12, tc_13, tc_14, tc_15, tc_16, tc_17, tc_18, tc_19, tc_20, tc_21, tc_22, tc_23, tc_24, tc_25, tc_26, tc_27, tc_28, tc_29, tc_30, tc_31, tc_32, lcl_none, lcl_int, lcl_ref, lcl_null, lcl_long, okR_nil, okR_int, okR_ref, okR_null, okR_long, pushR_some, pushR_none, va_rf_some, va_rf_none, true_and, and_true, true_implies, false_implies, not_true_eq_false, not_false_eq_true, implies_true, bI_eq0, bI_eq1, bI_01, Classical.not_not, or_em, false_and, and_false, hg0, hz, hg3, hg3', h2', h2'', h3', h3'']
        rw [ek, nt_0, nf_0]
theorem c_readEnd {d p N : Nat} {b : Bool} {T : Nat → Int32} {k f : Int32} {M : ab_M} {K : ab_Q} (hd : 3 ≤ d) (hT : TT b M T N) (hp : p ≤ N) : EvD d 57 [.ref 1] (tx M p k f) K = K none (tx M (epP T N p) (nt k (ekP T N p)) (nf k f (ekP T N p) (skP T N p))) := by
  have hS0 := hT.1
  have hsk := skP_le (T := T) hp
  have hS : Sh b (tx M (skP T N p) k f) := hS0
  have hsk2 : ∀ K, EvD 2 58 [.ref 1] (tx M p k f) K = K none (tx M (skP T N p) k f) := fun K => c_skip (d := 2) (by decide) hT hp
  have hl : ∀ K, EvD 2 59 [.ref 1] (tx M (skP T N p) k f) K = K (some (.int (if skP T N p < N then T (skP T N p) else -1))) (tx M (skP T N p) k f) := fun K => c_letter (d := 2) (by decide) hT hsk.2
  have hk1 : ∀ p k f, mK (tx M p k f) 1 = 8 := fun _ _ _ => by show mK M 1 = 8; rw [hS0.1]; rfl
  rw [b_57 hd]
  by_cases h : skP T N p < N ∧ T (skP T N p) = 59
  · have e1 : ekP T N p = 0 := if_pos h
    have e2 : epP T N p = skP T N p + 1 := if_pos h
    have h59 : ((if skP T N p < N then T (skP T N p) else -1) = 59) = True := by rw [if_pos h.1]; exact eq_true h.2
    simp +decide only [e_57_0, e_57_1, e_57_4, e_57_5, e_57_8, e_57_10, e_57_13, e_57_14, e_57_14r, e_57_15, e_57_18, e_57_19, e_57_20, e_57_23, e_57_26, e_57_27, e_57_28, e_57_29, e_57_32, e_57_35, ↓reduceIte, Int32.reduceAdd, Int32.reduceSub, an_0, an_1, an_2, an_3, an_4, an_5, tc_0, tc_1, tc_2, tc_3, tc_4, tc_5, tc_6, tc_7, tc_8, tc_9, tc_10, tc_11, tc_12, tc_13, tc_14, tc_15, tc_16, tc_17, tc_18, tc_19, tc_20, tc_21, tc_22, tc_23, tc_24, tc_25, tc_26, tc_27, tc_28, tc_29, tc_30, tc_31, tc_32, lcl_none, lcl_int, lcl_ref, lcl_null, lcl_long, okR_nil, okR_int, okR_ref, okR_null, okR_long, pushR_some, pushR_none, va_rf_some, va_rf_none, true_and, and_true, true_implies, false_implies, not_true_eq_false, not_false_eq_true, implies_true, bI_eq0, bI_eq1, bI_01, Classical.not_not, or_em, false_and, and_false, hS.1, hS.2.1, hS.2.2.1, hS.2.2.2.1, kT_0, kT_1, kT_2, kT_15, kT_16, kT_17, kT_18, kT_19, kT_80, kT_81, kT_82, kT_89, kT_90, kT_91, kT_92, kT_93, kT_94, kT_95, kT_96, kT_97, kT_98, kT_99, kT_100, kT_101, nT_2, nT_16, nT_17, nT_19, nT_81, nT_82, nT_90, nT_91, nT_94, nT_95, nT_97, nT_98, nT_100, nT_101, rT_0_0, rT_0_3, rT_0_4, rT_0_5, rT_0_6, rT_0_7, rT_0_8, rT_0_9, rT_0_10, rT_1_0, rT_15_0, rT_15_1, rT_18_0, rT_80_0, rT_80_1, rT_89_0, rT_89_1, rT_93_6, rT_93_7, rT_96_0, rT_96_1, rT_99_0, rT_99_1, hk1, hsk2, hl, h59, tx_2, nI_1, tx_wp]
    rw [e1, e2, nt_0, nf_0]
  · have e1 : ekP T N p = 1 := if_neg h
    have e2 : epP T N p = skP T N p := if_neg h
    have h59 : ((if skP T N p < N then T (skP T N p) else -1) = 59) = False := by
      by_cases h9 : skP T N p < N
      · rw [if_pos h9]; exact eq_false (fun z => h ⟨h9, z⟩)
      · rw [if_neg h9]; decide
    simp +decide only [e_57_0, e_57_1, e_57_4, e_57_5, e_57_8, e_57_10, e_57_13, e_57_14, e_57_14r, e_57_15, e_57_18, e_57_19, e_57_20, e_57_23, e_57_26, e_57_27, e_57_28, e_57_29, e_57_32, e_57_35, ↓reduceIte, Int32.reduceAdd, Int32.reduceSub, an_0, an_1, an_2, an_3, an_4, an_5, tc_0, tc_1, tc_2, tc_3, tc_4, tc_5, tc_6, tc_7, tc_8, tc_9, tc_10, tc_11, tc_12, tc_13, tc_14, tc_15, tc_16, tc_17, tc_18, tc_19, tc_20, tc_21, tc_22, tc_23, tc_24, tc_25, tc_26, tc_27, tc_28, tc_29, tc_30, tc_31, tc_32, lcl_none, lcl_int, lcl_ref, lcl_null, lcl_long, okR_nil, okR_int, okR_ref, okR_null, okR_long, pushR_some, pushR_none, va_rf_some, va_rf_none, true_and, and_true, true_implies, false_implies, not_true_eq_false, not_false_eq_true, implies_true, bI_eq0, bI_eq1, bI_01, Classical.not_not, or_em, false_and, and_false, hS.1, hS.2.1, hS.2.2.1, hS.2.2.2.1, kT_0, kT_1, kT_2, kT_15, kT_16, kT_17, kT_18, kT_19, kT_80, kT_81, kT_82, kT_89, kT_90, kT_91, kT_92, kT_93, kT_94, kT_95, kT_96, kT_97, kT_98, kT_99, kT_100, kT_101, nT_2, nT_16, nT_17, nT_19, nT_81, nT_82, nT_90, nT_91, nT_94, nT_95, nT_97, nT_98, nT_100, nT_101, rT_0_0, rT_0_3, rT_0_4, rT_0_5, rT_0_6, rT_0_7, rT_0_8, rT_0_9, rT_0_10, rT_1_0, rT_15_0, rT_15_1, rT_18_0, rT_80_0, rT_80_1, rT_89_0, rT_89_1, rT_93_6, rT_93_7, rT_96_0, rT_96_1, rT_99_0, rT_99_1, hk1, hsk2, hl, h59, tx_2, c_note (d := 2) (by decide) hS0]
    rw [e1, e2]
    unfold nt nf
    by_cases hk : k = 0 <;> simp [hk]
