/-! the clauses, the class -/
def dl (b : Bool) : Nat := chL (!b)
theorem dl_c (b : Bool) : dl b = 3 ∨ dl b = 9 := chL_cases (!b)
theorem dS2 {b : Bool} : rT b 0 2 = some (dl b) := by cases b <;> rfl
theorem dK {b : Bool} : kT (dl b) = 1 := by cases b <;> rfl
theorem dR7 {b : Bool} : rT b (dl b) 7 = some (dl b + 1) := by cases b <;> rfl
theorem dR8 {b : Bool} : rT b (dl b) 8 = some (dl b + 2) := by cases b <;> rfl
theorem dR9 {b : Bool} : rT b (dl b) 9 = some (dl b + 3) := by cases b <;> rfl
theorem dR10 {b : Bool} : rT b (dl b) 10 = some (dl b + 4) := by cases b <;> rfl
theorem dR11 {b : Bool} : rT b (dl b) 11 = some (dl b + 5) := by cases b <;> rfl
theorem dK1 {b : Bool} : kT (dl b + 1) = 20 := by cases b <;> rfl
theorem dK2 {b : Bool} : kT (dl b + 2) = 20 := by cases b <;> rfl
theorem dK3 {b : Bool} : kT (dl b + 3) = 20 := by cases b <;> rfl
theorem dK4 {b : Bool} : kT (dl b + 4) = 20 := by cases b <;> rfl
theorem dK5 {b : Bool} : kT (dl b + 5) = 20 := by cases b <;> rfl
theorem dN1 {b : Bool} : nT (dl b + 1) = 5 := by cases b <;> rfl
theorem dN2 {b : Bool} : nT (dl b + 2) = 5 := by cases b <;> rfl
theorem dN3 {b : Bool} : nT (dl b + 3) = 5 := by cases b <;> rfl
theorem dN4 {b : Bool} : nT (dl b + 4) = 5 := by cases b <;> rfl
theorem dN5 {b : Bool} : nT (dl b + 5) = 5 := by cases b <;> rfl
theorem TT_w {b : Bool} {M : ab_M} {T : Nat → Int32} {N a j : Nat} {v : Int32} (h : TT b M T N) (h1 : a ≠ 1) (h2 : a ≠ 2) : TT b (wI M a j v) T N := ⟨h.1, by rw [mI_wI_ne (fun z => h1 z.symm)]; exact h.2.1, h.2.2.1, fun i hi => by rw [mI_wI_ne (fun z => h2 z.symm)]; exact h.2.2.2 i hi⟩
theorem TT_d {b : Bool} {M : ab_M} {T : Nat → Int32} {N i j : Nat} {v : Int32} (h : TT b M T N) : TT b (wI M (dl b + i) j v) T N := TT_w h (by have := dl_c b; omega) (by have := dl_c b; omega)
theorem TT_d0 {b : Bool} {M : ab_M} {T : Nat → Int32} {N j : Nat} {v : Int32} (h : TT b M T N) : TT b (wI M (dl b) j v) T N := TT_w h (by have := dl_c b; omega) (by have := dl_c b; omega)
theorem tx_d {b : Bool} {M : ab_M} {p i j : Nat} {k f v : Int32} : wI (tx M p k f) (dl b + i) j v = tx (wI M (dl b + i) j v) p k f := tx_w (by have := dl_c b; omega)
theorem tx_d0 {b : Bool} {M : ab_M} {p j : Nat} {k f v : Int32} : wI (tx M p k f) (dl b) j v = tx (wI M (dl b) j v) p k f := tx_w (by have := dl_c b; omega)
theorem mK_tx {M : ab_M} {p : Nat} {k f : Int32} : mK (tx M p k f) = mK M := rfl
def poM (b : Bool) (M : ab_M) (v1 v2 v3 v4 : Nat) : ab_M := wI (wI (wI (wI (wI M (dl b) 1 (nI v1)) (dl b) 2 (nI v2)) (dl b) 3 (nI v3)) (dl b) 4 (nI v4)) (dl b) 0 1
theorem c_potC {p N : Nat} {b : Bool} {T : Nat → Int32} {k f : Int32} {M : ab_M} {K : ab_Q} {p0 p1 p2 p3 p4 : Nat} {k1 k2 k3 k4 f1 f2 f3 f4 : Int32} (hT : TT b M T N) (hp : p < N) (e0 : p0 = p + 1) (e1 : p1 = npP T N p0) (e2 : p2 = npP T N p1) (e3 : p3 = npP T N p2) (e4 : p4 = npP T N p3) (g1 : k1 = nt k (nkP T N p0 999)) (g2 : k2 = nt k1 (nkP T N p1 10)) (g3 : k3 = nt k2 (nkP T N p2 99)) (g4 : k4 = nt k3 (nkP T N p3 99)) (u1 : f1 = nf k f (nkP T N p0 999) (skP T N p0)) (u2 : f2 = nf k1 f1 (nkP T N p1 10) (skP T N p1)) (u3 : f3 = nf k2 f2 (nkP T N p2 99) (skP T N p2)) (u4 : f4 = nf k3 f3 (nkP T N p3 99) (skP T N p3)) : EvD 4 53 [.ref 1, .ref (dl b), .int 112] (tx M p k f) K = K none (tx (poM b M (nvP T N p0) (nvP T N p1) (nvP T N p2) (nvP T N p3)) (epP T N p4) (nt k4 (ekP T N p4)) (nf k4 f4 (ekP T N p4) (skP T N p4))) := by
  have hS0 := hT.1
  have hk1 : mK M 1 = 8 := by rw [hS0.1]; rfl
  have hkd : mK M (dl b) = 1 := by rw [hS0.1]; exact dK
  have l0 : p0 ≤ N := by omega
  have l1 := npP_le (T := T) l0
  have l2 := npP_le (T := T) (p := p1) (N := N) (by omega)
  have l3 := npP_le (T := T) (p := p2) (N := N) (by omega)
  have l4 := npP_le (T := T) (p := p3) (N := N) (by omega)
  have r1 : ∀ K, EvD 3 56 [.ref 1, .int 999] (tx M p0 k f) K = K (some (.int (nI (nvP T N p0)))) (tx M p1 k1 f1) := fun K => by rw [c_readNum (Nat.le_refl 3) hT l0, ← e1, ← g1, ← u1]
  have hT1 : TT b (wI M (dl b) 1 (nI (nvP T N p0))) T N := TT_d0 hT
  have r2 : ∀ K, EvD 3 56 [.ref 1, .int 10] (tx (wI M (dl b) 1 (nI (nvP T N p0))) p1 k1 f1) K = K (some (.int (nI (nvP T N p1)))) (tx (wI M (dl b) 1 (nI (nvP T N p0))) p2 k2 f2) := fun K => by rw [c_readNum (Nat.le_refl 3) hT1 (by omega), ← e2, ← g2, ← u2]
  have hT2 : TT b (wI (wI M (dl b) 1 (nI (nvP T N p0))) (dl b) 2 (nI (nvP T N p1))) T N := TT_d0 hT1
  have r3 : ∀ K, EvD 3 56 [.ref 1, .int 99] (tx (wI (wI M (dl b) 1 (nI (nvP T N p0))) (dl b) 2 (nI (nvP T N p1))) p2 k2 f2) K = K (some (.int (nI (nvP T N p2)))) (tx (wI (wI M (dl b) 1 (nI (nvP T N p0))) (dl b) 2 (nI (nvP T N p1))) p3 k3 f3) := fun K => by rw [c_readNum (Nat.le_refl 3) hT2 (by omega), ← e3, ← g3, ← u3]
  have hT3 : TT b (wI (wI (wI M (dl b) 1 (nI (nvP T N p0))) (dl b) 2 (nI (nvP T N p1))) (dl b) 3 (nI (nvP T N p2))) T N := TT_d0 hT2
  have r4 : ∀ K, EvD 3 56 [.ref 1, .int 99] (tx (wI (wI (wI M (dl b) 1 (nI (nvP T N p0))) (dl b) 2 (nI (nvP T N p1))) (dl b) 3 (nI (nvP T N p2))) p3 k3 f3) K = K (some (.int (nI (nvP T N p3)))) (tx (wI (wI (wI M (dl b) 1 (nI (nvP T N p0))) (dl b) 2 (nI (nvP T N p1))) (dl b) 3 (nI (nvP T N p2))) p4 k4 f4) := fun K => by rw [c_readNum (Nat.le_refl 3) hT3 (by omega), ← e4, ← g4, ← u4]
  have hT4 : TT b (wI (wI (wI (wI M (dl b) 1 (nI (nvP T N p0))) (dl b) 2 (nI (nvP T N p1))) (dl b) 3 (nI (nvP T N p2))) (dl b) 4 (nI (nvP T N p3))) T N := TT_d0 hT3
  have r5 : ∀ K, EvD 3 57 [.ref 1] (tx (wI (wI (wI (wI M (dl b) 1 (nI (nvP T N p0))) (dl b) 2 (nI (nvP T N p1))) (dl b) 3 (nI (nvP T N p2))) (dl b) 4 (nI (nvP T N p3))) p4 k4 f4) K = K none (tx (wI (wI (wI (wI M (dl b) 1 (nI (nvP T N p0))) (dl b) 2 (nI (nvP T N p1))) (dl b) 3 (nI (nvP T N p2))) (dl b) 4 (nI (nvP T N p3))) (epP T N p4) (nt k4 (ekP T N p4)) (nf k4 f4 (ekP T N p4) (skP T N p4))) := fun K => c_readEnd (Nat.le_refl 3) hT4 (by omega)
  rw [b_53 (Nat.le_refl 4)]
  simp +decide only [e_53_0, e_53_1, e_53_3, e_53_6, e_53_7, e_53_8, e_53_9, e_53_12, e_53_15, e_53_16, e_53_17, e_53_17r, e_53_18, e_53_21, e_53_22, e_53_23, e_53_26, e_53_27, e_53_28, e_53_31, ↓reduceIte, Int32.reduceAdd, Int32.reduceSub, an_0, an_1, an_2, an_3, an_4, an_5, tc_0, tc_1, tc_2, tc_3, tc_4, tc_5, tc_6, tc_7, tc_8, tc_9, tc_10, tc_11, tc_12, tc_13, tc_14, tc_15, tc_16, tc_17, tc_18, tc_19, tc_20, tc_21, tc_22, tc_23, tc_24, tc_25, tc_26, tc_27, tc_28, tc_29, tc_30, tc_31, tc_32, lcl_none, lcl_int, lcl_ref, lcl_null, lcl_long, okR_nil, okR_int, okR_ref, okR_null, okR_long, pushR_some, pushR_none, va_rf_some, va_rf_none, true_and, and_true, true_implies, false_implies, not_true_eq_false, not_false_eq_true, implies_true, bI_eq0, bI_eq1, bI_01, Classical.not_not, or_em, false_and, and_false, mK_tx, hk1, tx_2, nI_1, tx_wp]
  rw [← e0]
  simp +decide only [r1, e_53_34, e_53_37, e_53_38, e_53_39, e_53_41, ↓reduceIte, Int32.reduceAdd, Int32.reduceSub, an_0, an_1, an_2, an_3, an_4, an_5, tc_0, tc_1, tc_2, tc_3, tc_4, tc_5, tc_6, tc_7, tc_8, tc_9, tc_10, tc_11, tc_12, tc_13, tc_14, tc_15, tc_16, tc_17, tc_18, tc_19, tc_20, tc_21, tc_22, tc_23, tc_24, tc_25, tc_26, tc_27, tc_28, tc_29, tc_30, tc_31, tc_32, lcl_none, lcl_int, lcl_ref, lcl_null, lcl_long, okR_nil, okR_int, okR_ref, okR_null, okR_long, pushR_some, pushR_none, va_rf_some, va_rf_none, true_and, and_true, true_implies, false_implies, not_true_eq_false, not_false_eq_true, implies_true, bI_eq0, bI_eq1, bI_01, Classical.not_not, or_em, false_and, and_false, mK_tx, hk1, hkd, tx_d0, mK_wI]
  simp +decide only [r2, e_53_44, e_53_47, e_53_48, e_53_49, e_53_51, ↓reduceIte, Int32.reduceAdd, Int32.reduceSub, an_0, an_1, an_2, an_3, an_4, an_5, tc_0, tc_1, tc_2, tc_3, tc_4, tc_5, tc_6, tc_7, tc_8, tc_9, tc_10, tc_11, tc_12, tc_13, tc_14, tc_15, tc_16, tc_17, tc_18, tc_19, tc_20, tc_21, tc_22, tc_23, tc_24, tc_25, tc_26, tc_27, tc_28, tc_29, tc_30, tc_31, tc_32, lcl_none, lcl_int, lcl_ref, lcl_null, lcl_long, okR_nil, okR_int, okR_ref, okR_null, okR_long, pushR_some, pushR_none, va_rf_some, va_rf_none, true_and, and_true, true_implies, false_implies, not_true_eq_false, not_false_eq_true, implies_true, bI_eq0, bI_eq1, bI_01, Classical.not_not, or_em, false_and, and_false, mK_tx, hk1, hkd, tx_d0, mK_wI]
  simp +decide only [r3, e_53_54, e_53_57, e_53_58, e_53_59, e_53_61, ↓reduceIte, Int32.reduceAdd, Int32.reduceSub, an_0, an_1, an_2, an_3, an_4, an_5, tc_0, tc_1, tc_2, tc_3, tc_4, tc_5, tc_6, tc_7, tc_8, tc_9, tc_10, tc_11, tc_12, tc_13, tc_14, tc_15, tc_16, tc_17, tc_18, tc_19, tc_20, tc_21, tc_22, tc_23, tc_24, tc_25, tc_26, tc_27, tc_28, tc_29, tc_30, tc_31, tc_32, lcl_none, lcl_int, lcl_ref, lcl_null, lcl_long, okR_nil, okR_int, okR_ref, okR_null, okR_long, pushR_some, pushR_none, va_rf_some, va_rf_none, true_and, and_true, true_implies, false_implies, not_true_eq_false, not_false_eq_true, implies_true, bI_eq0, bI_eq1, bI_01, Classical.not_not, or_em, false_and, and_false, mK_tx, hk1, hkd, tx_d0, mK_wI]
  simp +decide only [r4, e_53_64, e_53_67, e_53_68, ↓reduceIte, Int32.reduceAdd, Int32.reduceSub, an_0, an_1, an_2, an_3, an_4, an_5, tc_0, tc_1, tc_2, tc_3, tc_4, tc_5, tc_6, tc_7, tc_8, tc_9, tc_10, tc_11, tc_12, tc_13, tc_14, tc_15, tc_16, tc_17, tc_18, tc_19, tc_20, tc_21, tc_22, tc_23, tc_24, tc_25, tc_26, tc_27, tc_28, tc_29, tc_30, tc_31, tc_32, lcl_none, lcl_int, lcl_ref, lcl_null, lcl_long, okR_nil, okR_int, okR_ref, okR_null, okR_long, pushR_some, pushR_none, va_rf_some, va_rf_none, true_and, and_true, true_implies, false_implies, not_true_eq_false, not_false_eq_true, implies_true, bI_eq0, bI_eq1, bI_01, Classical.not_not, or_em, false_and, and_false, mK_tx, hk1, hkd, tx_d0, mK_wI]
  simp +decide only [r5, e_53_71, e_53_72, e_53_73, e_53_76, ↓reduceIte, Int32.reduceAdd, Int32.reduceSub, an_0, an_1, an_2, an_3, an_4, an_5, tc_0, tc_1, tc_2, tc_3, tc_4, tc_5, tc_6, tc_7, tc_8, tc_9, tc_10, tc_11, tc_12, tc_13, tc_14, tc_15, tc_16, tc_17, tc_18, tc_19, tc_20, tc_21, tc_22, tc_23, tc_24, tc_25, tc_26, tc_27, tc_28, tc_29, tc_30, tc_31, tc_32, lcl_none, lcl_int, lcl_ref, lcl_null, lcl_long, okR_nil, okR_int, okR_ref, okR_null, okR_long, pushR_some, pushR_none, va_rf_some, va_rf_none, true_and, and_true, true_implies, false_implies, not_true_eq_false, not_false_eq_true, implies_true, bI_eq0, bI_eq1, bI_01, Classical.not_not, or_em, false_and, and_false, mK_tx, hk1, hkd, tx_d0, mK_wI]
  rfl
def liM (b : Bool) (M : ab_M) (n q x : Nat) : ab_M := wI (wI (wI (wI M (dl b + 1) n (nI q)) (dl b + 2) n (nI x)) (dl b + 3) n (-1)) (dl b) 5 (nI (n + 1))
theorem c_addLife {p n q x : Nat} {b : Bool} {k f : Int32} {M : ab_M} {K : ab_Q} (hS0 : Sh b M) (hn : n < 5) (h5 : mI M (dl b) 5 = nI n) : EvD 3 10 [.ref (dl b), .int (nI q), .int (nI x)] (tx M p k f) K = K none (tx (liM b M n q x) p k f) := by
  have hS : Sh b (tx M p k f) := hS0
  have hd := dl_c b
  have e5 : mI (tx M p k f) (dl b) 5 = nI n := by rw [tx_o (by omega)]; exact h5
  have z1 : (5 ≤ nI n) = False := by rw [show (5 : Int32) = nI 5 from rfl, nI_leE (by decide) (by omega)]; exact eq_false (by omega)
  have hcl : (nI n).toNatClampNeg = n := nI_clamp (by omega)
  have hin : inX (nI n) 5 = True := eq_true (inX_nI (by decide) hn)
  have f1 : (dl b = dl b + 1) = False := eq_false (by omega)
  have f2 : (dl b = dl b + 2) = False := eq_false (by omega)
  have f3 : (dl b = dl b + 3) = False := eq_false (by omega)
  rw [b_10 (by decide)]
  simp +decide only [e_10_0, e_10_1, e_10_4, e_10_5, e_10_8, e_10_9, e_10_12, e_10_13, e_10_16, e_10_17, e_10_18, e_10_19, e_10_22, e_10_23, e_10_26, e_10_27, e_10_28, e_10_29, e_10_32, e_10_33, e_10_36, e_10_37, e_10_38, e_10_39, e_10_39r, e_10_40, e_10_43, e_10_44, e_10_45, e_10_48, ↓reduceIte, Int32.reduceAdd, Int32.reduceSub, an_0, an_1, an_2, an_3, an_4, an_5, tc_0, tc_1, tc_2, tc_3, tc_4, tc_5, tc_6, tc_7, tc_8, tc_9, tc_10, tc_11, tc_12, tc_13, tc_14, tc_15, tc_16, tc_17, tc_18, tc_19, tc_20, tc_21, tc_22, tc_23, tc_24, tc_25, tc_26, tc_27, tc_28, tc_29, tc_30, tc_31, tc_32, lcl_none, lcl_int, lcl_ref, lcl_null, lcl_long, okR_nil, okR_int, okR_ref, okR_null, okR_long, pushR_some, pushR_none, va_rf_some, va_rf_none, true_and, and_true, true_implies, false_implies, not_true_eq_false, not_false_eq_true, implies_true, bI_eq0, bI_eq1, bI_01, Classical.not_not, or_em, false_and, and_false, hS.1, hS.2.1, hS.2.2.1, hS.2.2.2.1, dK, dR7, dR8, dR9, dK1, dK2, dK3, dN1, dN2, dN3, mI_wI, mI_wJ, mI_wR, mJ_wI, mJ_wJ, mJ_wR, mR_wI, mR_wJ, mR_wR, mK_wI, mK_wJ, mK_wR, mN_wI, mN_wJ, mN_wR, mZ_wI, mZ_wJ, mZ_wR, e5, z1, hcl, hin, f1, f2, f3, nI_1]
  rw [tx_d, tx_d, tx_d, tx_d0]
  rfl
theorem c_lifeC {p N n : Nat} {b : Bool} {T : Nat → Int32} {k f : Int32} {M : ab_M} {K : ab_Q} {p0 p1 p2 : Nat} {k1 k2 f1 f2 : Int32} (hT : TT b M T N) (hp : p < N) (hn : n < 5) (h5 : mI M (dl b) 5 = nI n) (e0 : p0 = p + 1) (e1 : p1 = npP T N p0) (e2 : p2 = npP T N p1) (g1 : k1 = nt k (nkP T N p0 100)) (g2 : k2 = nt k1 (nkP T N p1 50)) (u1 : f1 = nf k f (nkP T N p0 100) (skP T N p0)) (u2 : f2 = nf k1 f1 (nkP T N p1 50) (skP T N p1)) : EvD 4 54 [.ref 1, .ref (dl b)] (tx M p k f) K = K none (tx (liM b M n (nvP T N p0) (nvP T N p1)) (epP T N p2) (nt k2 (ekP T N p2)) (nf k2 f2 (ekP T N p2) (skP T N p2))) := by
  have hS0 := hT.1
  have hd := dl_c b
  have hk1 : ∀ p k f, mK (tx M p k f) 1 = 8 := fun _ _ _ => by show mK M 1 = 8; rw [hS0.1]; rfl
  have hkd : ∀ p k f, mK (tx M p k f) (dl b) = 1 := fun _ _ _ => by show mK M (dl b) = 1; rw [hS0.1]; exact dK
  have l0 : p0 ≤ N := by omega
  have l1 := npP_le (T := T) l0
  have l2 := npP_le (T := T) (p := p1) (N := N) (by omega)
  have r1 : ∀ K, EvD 3 56 [.ref 1, .int 100] (tx M p0 k f) K = K (some (.int (nI (nvP T N p0)))) (tx M p1 k1 f1) := fun K => by rw [c_readNum (Nat.le_refl 3) hT l0, ← e1, ← g1, ← u1]
  have r2 : ∀ K, EvD 3 56 [.ref 1, .int 50] (tx M p1 k1 f1) K = K (some (.int (nI (nvP T N p1)))) (tx M p2 k2 f2) := fun K => by rw [c_readNum (Nat.le_refl 3) hT (by omega), ← e2, ← g2, ← u2]
  have r3 : ∀ K, EvD 3 57 [.ref 1] (tx M p2 k2 f2) K = K none (tx M (epP T N p2) (nt k2 (ekP T N p2)) (nf k2 f2 (ekP T N p2) (skP T N p2))) := fun K => c_readEnd (Nat.le_refl 3) hT (by omega)
  have e5 : mI (tx M p k f) (dl b) 5 = nI n := by rw [tx_o (by omega)]; exact h5
  have z1 : (nI n < 5) = True := by rw [show (5 : Int32) = nI 5 from rfl, nI_ltE (by omega) (by decide)]; exact eq_true (by omega)
  rw [b_54 (Nat.le_refl 4)]
  simp +decide only [e_54_0, e_54_1, e_54_4, e_54_5, e_54_8, e_54_9, e_54_10, e_54_11, e_54_14, e_54_17, e_54_18, e_54_19, e_54_19r, e_54_20, e_54_23, e_54_24, e_54_25, e_54_28, e_54_29, e_54_31, ↓reduceIte, Int32.reduceAdd, Int32.reduceSub, an_0, an_1, an_2, an_3, an_4, an_5, tc_0, tc_1, tc_2, tc_3, tc_4, tc_5, tc_6, tc_7, tc_8, tc_9, tc_10, tc_11, tc_12, tc_13, tc_14, tc_15, tc_16, tc_17, tc_18, tc_19, tc_20, tc_21, tc_22, tc_23, tc_24, tc_25, tc_26, tc_27, tc_28, tc_29, tc_30, tc_31, tc_32, lcl_none, lcl_int, lcl_ref, lcl_null, lcl_long, okR_nil, okR_int, okR_ref, okR_null, okR_long, pushR_some, pushR_none, va_rf_some, va_rf_none, true_and, and_true, true_implies, false_implies, not_true_eq_false, not_false_eq_true, implies_true, bI_eq0, bI_eq1, bI_01, Classical.not_not, or_em, false_and, and_false, hk1, hkd, e5, z1, tx_2, nI_1, tx_wp]
  rw [← e0]
  simp +decide only [r1, r2, r3, e_54_34, e_54_35, e_54_36, e_54_38, e_54_41, e_54_42, e_54_43, e_54_46, e_54_47, e_54_48, e_54_49, e_54_52, ↓reduceIte, Int32.reduceAdd, Int32.reduceSub, an_0, an_1, an_2, an_3, an_4, an_5, tc_0, tc_1, tc_2, tc_3, tc_4, tc_5, tc_6, tc_7, tc_8, tc_9, tc_10, tc_11, tc_12, tc_13, tc_14, tc_15, tc_16, tc_17, tc_18, tc_19, tc_20, tc_21, tc_22, tc_23, tc_24, tc_25, tc_26, tc_27, tc_28, tc_29, tc_30, tc_31, tc_32, lcl_none, lcl_int, lcl_ref, lcl_null, lcl_long, okR_nil, okR_int, okR_ref, okR_null, okR_long, pushR_some, pushR_none, va_rf_some, va_rf_none, true_and, and_true, true_implies, false_implies, not_true_eq_false, not_false_eq_true, implies_true, bI_eq0, bI_eq1, bI_01, Classical.not_not, or_em, false_and, and_false, hk1, hkd, c_addLife hS0 hn h5]
theorem c_life5 {p n : Nat} {b : Bool} {k f : Int32} {M : ab_M} {K : ab_Q} (hS0 : Sh b M) (hn : n = 5) (h5 : mI M (dl b) 5 = nI n) : EvD 4 54 [.ref 1, .ref (dl b)] (tx M p k f) K = K none (tx M p (if k = 0 then 3 else k) (if k = 0 then nI p else f)) := by
  have hd := dl_c b
  have hk1 : ∀ p k f, mK (tx M p k f) 1 = 8 := fun _ _ _ => by show mK M 1 = 8; rw [hS0.1]; rfl
  have hkd : ∀ p k f, mK (tx M p k f) (dl b) = 1 := fun _ _ _ => by show mK M (dl b) = 1; rw [hS0.1]; exact dK
  have e5 : mI (tx M p k f) (dl b) 5 = 5 := by rw [tx_o (by omega), h5, hn]; rfl
  rw [b_54 (Nat.le_refl 4)]
  simp +decide only [e_54_0, e_54_1, e_54_4, e_54_5, e_54_8, e_54_9, e_54_10, e_54_11, e_54_14, e_54_17, ↓reduceIte, Int32.reduceAdd, Int32.reduceSub, an_0, an_1, an_2, an_3, an_4, an_5, tc_0, tc_1, tc_2, tc_3, tc_4, tc_5, tc_6, tc_7, tc_8, tc_9, tc_10, tc_11, tc_12, tc_13, tc_14, tc_15, tc_16, tc_17, tc_18, tc_19, tc_20, tc_21, tc_22, tc_23, tc_24, tc_25, tc_26, tc_27, tc_28, tc_29, tc_30, tc_31, tc_32, lcl_none, lcl_int, lcl_ref, lcl_null, lcl_long, okR_nil, okR_int, okR_ref, okR_null, okR_long, pushR_some, pushR_none, va_rf_some, va_rf_none, true_and, and_true, true_implies, false_implies, not_true_eq_false, not_false_eq_true, implies_true, bI_eq0, bI_eq1, bI_01, Classical.not_not, or_em, false_and, and_false, hk1, hkd, e5, tx_2, c_note (d := 3) (by decide) hS0]
theorem c_sub5 {p m : Nat} {b : Bool} {k f : Int32} {M : ab_M} {K : ab_Q} (hS0 : Sh b M) (hm : m = 5) (h6 : mI M (dl b) 6 = nI m) : EvD 4 55 [.ref 1, .ref (dl b)] (tx M p k f) K = K none (tx M p (if k = 0 then 3 else k) (if k = 0 then nI p else f)) := by
  have hd := dl_c b
  have hk1 : ∀ p k f, mK (tx M p k f) 1 = 8 := fun _ _ _ => by show mK M 1 = 8; rw [hS0.1]; rfl
  have hkd : ∀ p k f, mK (tx M p k f) (dl b) = 1 := fun _ _ _ => by show mK M (dl b) = 1; rw [hS0.1]; exact dK
  have e6 : mI (tx M p k f) (dl b) 6 = 5 := by rw [tx_o (by omega), h6, hm]; rfl
  rw [b_55 (Nat.le_refl 4)]
  simp +decide only [e_55_0, e_55_1, e_55_4, e_55_5, e_55_8, e_55_9, e_55_10, e_55_11, e_55_14, e_55_17, ↓reduceIte, Int32.reduceAdd, Int32.reduceSub, an_0, an_1, an_2, an_3, an_4, an_5, tc_0, tc_1, tc_2, tc_3, tc_4, tc_5, tc_6, tc_7, tc_8, tc_9, tc_10, tc_11, tc_12, tc_13, tc_14, tc_15, tc_16, tc_17, tc_18, tc_19, tc_20, tc_21, tc_22, tc_23, tc_24, tc_25, tc_26, tc_27, tc_28, tc_29, tc_30, tc_31, tc_32, lcl_none, lcl_int, lcl_ref, lcl_null, lcl_long, okR_nil, okR_int, okR_ref, okR_null, okR_long, pushR_some, pushR_none, va_rf_some, va_rf_none, true_and, and_true, true_implies, false_implies, not_true_eq_false, not_false_eq_true, implies_true, bI_eq0, bI_eq1, bI_01, Classical.not_not, or_em, false_and, and_false, hk1, hkd, e6, tx_2, c_note (d := 3) (by decide) hS0]
def suM (b : Bool) (M : ab_M) (m u x l : Nat) : ab_M := wI (wI (wI (wI M (dl b + 4) m (nI u)) (dl b + 5) m (nI x)) (dl b + 3) l (nI m)) (dl b) 6 (nI (m + 1))
theorem c_addSub {p n m u x l : Nat} {b : Bool} {k f : Int32} {M : ab_M} {K : ab_Q} (hS0 : Sh b M) (hm : m < 5) (hn5 : n ≤ 5) (hl : l < 1000) (h5 : mI M (dl b) 5 = nI n) (h6 : mI M (dl b) 6 = nI m) : EvD 3 11 [.ref (dl b), .int (nI u), .int (nI x), .int (nI l)] (tx M p k f) K = K none (tx (if l < n then suM b M m u x l else M) p k f) := by
  have hS : Sh b (tx M p k f) := hS0
  have hd := dl_c b
  have e5 : mI (tx M p k f) (dl b) 5 = nI n := by rw [tx_o (by omega)]; exact h5
  have e6 : mI (tx M p k f) (dl b) 6 = nI m := by rw [tx_o (by omega)]; exact h6
  have hkd : mK (tx M p k f) (dl b) = 1 := by show mK M (dl b) = 1; rw [hS0.1]; exact dK
  have z1 : (5 ≤ nI m) = False := by rw [show (5 : Int32) = nI 5 from rfl, nI_leE (by decide) (by omega)]; exact eq_false (by omega)
  have hcl : (nI m).toNatClampNeg = m := nI_clamp (by omega)
  have hin : inX (nI m) 5 = True := eq_true (inX_nI (by decide) hm)
  have f3 : (dl b = dl b + 3) = False := eq_false (by omega)
  have f4 : (dl b = dl b + 4) = False := eq_false (by omega)
  have f5 : (dl b = dl b + 5) = False := eq_false (by omega)
  have hh : (0 ≤ nI l ∧ nI l < nI n) = (l < n) := by
    rw [nI_ltE (by omega) (by omega)]
    exact propext ⟨fun z => z.2, fun z => ⟨nI_pos' (by omega), z⟩⟩
  rw [b_11 (by decide)]
  by_cases hln : l < n
  · have hln' : (l < n) = True := eq_true hln
    have hcl2 : (nI l).toNatClampNeg = l := nI_clamp (by omega)
    have hin2 : inX (nI l) 5 = True := eq_true (inX_nI (by decide) (by omega))
    rw [if_pos hln]
    simp +decide only [e_11_0, e_11_1, e_11_4, e_11_5, e_11_8, e_11_9, e_11_10, e_11_13, e_11_16, e_11_17, e_11_20, e_11_21, e_11_24, e_11_25, e_11_26, e_11_27, e_11_30, e_11_31, e_11_34, e_11_35, e_11_36, e_11_37, e_11_40, e_11_41, e_11_42, e_11_45, e_11_46, e_11_47, e_11_47r, e_11_48, e_11_51, e_11_52, e_11_53, e_11_56, ↓reduceIte, Int32.reduceAdd, Int32.reduceSub, an_0, an_1, an_2, an_3, an_4, an_5, tc_0, tc_1, tc_2, tc_3, tc_4, tc_5, tc_6, tc_7, tc_8, tc_9, tc_10, tc_11, tc_12, tc_13, tc_14, tc_15, tc_16, tc_17, tc_18, tc_19, tc_20, tc_21, tc_22, tc_23, tc_24, tc_25, tc_26, tc_27, tc_28, tc_29, tc_30, tc_31, tc_32, lcl_none, lcl_int, lcl_ref, lcl_null, lcl_long, okR_nil, okR_int, okR_ref, okR_null, okR_long, pushR_some, pushR_none, va_rf_some, va_rf_none, true_and, and_true, true_implies, false_implies, not_true_eq_false, not_false_eq_true, implies_true, bI_eq0, bI_eq1, bI_01, Classical.not_not, or_em, false_and, and_false, hS.1, hS.2.1, hS.2.2.1, hS.2.2.2.1, c_hasLife (d := 1) (Nat.le_refl 1) hkd, dK, dR9, dR10, dR11, dK3, dK4, dK5, dN3, dN4, dN5, mI_wI, mI_wJ, mI_wR, mJ_wI, mJ_wJ, mJ_wR, mR_wI, mR_wJ, mR_wR, mK_wI, mK_wJ, mK_wR, mN_wI, mN_wJ, mN_wR, mZ_wI, mZ_wJ, mZ_wR, e5, e6, hh, hln', z1, hcl, hin, hcl2, hin2, f3, f4, f5, nI_1]
    rw [tx_d, tx_d, tx_d, tx_d0]
    rfl
  · have hln' : (l < n) = False := eq_false hln
    rw [if_neg hln]
    simp +decide only [e_11_0, e_11_1, e_11_4, e_11_5, e_11_8, e_11_9, e_11_10, e_11_13, e_11_16, e_11_17, e_11_20, e_11_21, e_11_24, e_11_25, e_11_26, e_11_27, e_11_30, e_11_31, e_11_34, e_11_35, e_11_36, e_11_37, e_11_40, e_11_41, e_11_42, e_11_45, e_11_46, e_11_47, e_11_47r, e_11_48, e_11_51, e_11_52, e_11_53, e_11_56, ↓reduceIte, Int32.reduceAdd, Int32.reduceSub, an_0, an_1, an_2, an_3, an_4, an_5, tc_0, tc_1, tc_2, tc_3, tc_4, tc_5, tc_6, tc_7, tc_8, tc_9, tc_10, tc_11, tc_12, tc_13, tc_14, tc_15, tc_16, tc_17, tc_18, tc_19, tc_20, tc_21, tc_22, tc_23, tc_24, tc_25, tc_26, tc_27, tc_28, tc_29, tc_30, tc_31, tc_32, lcl_none, lcl_int, lcl_ref, lcl_null, lcl_long, okR_nil, okR_int, okR_ref, okR_null, okR_long, pushR_some, pushR_none, va_rf_some, va_rf_none, true_and, and_true, true_implies, false_implies, not_true_eq_false, not_false_eq_true, implies_true, bI_eq0, bI_eq1, bI_01, Classical.not_not, or_em, false_and, and_false, hS.1, hS.2.1, hS.2.2.1, hS.2.2.2.1, c_hasLife (d := 1) (Nat.le_refl 1) hkd, dK, e5, e6, hh, hln', z1]
