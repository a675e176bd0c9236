/-! the clause of one who subscribes, the class -/
theorem rdP_s {T : Nat → Int32} {N p : Nat} (h : p ≤ N) : rdP T N (skP T N p) = rdP T N p := by unfold rdP; rw [skP_skP h]
theorem npP_s {T : Nat → Int32} {N p : Nat} (h : p ≤ N) : npP T N (skP T N p) = npP T N p := by unfold npP; rw [rdP_s h]
theorem nvP_s {T : Nat → Int32} {N p : Nat} (h : p ≤ N) : nvP T N (skP T N p) = nvP T N p := by unfold nvP; rw [rdP_s h]
theorem nkP_s {T : Nat → Int32} {N p : Nat} {most : Int32} (h : p ≤ N) : nkP T N (skP T N p) most = nkP T N p most := by unfold nkP ngP nvP; rw [rdP_s h]
def kh (n l : Nat) (h : Int32) : Int32 := if l < n ∧ h ≠ -1 then 4 else 0
theorem nt_n {k a : Int32} (h : k ≠ 0) : nt k a = k := if_neg h
theorem nt_z {a : Int32} : nt 0 a = a := if_pos rfl
theorem nf_n {k f a : Int32} {q : Nat} (h : k ≠ 0) : nf k f a q = f := if_neg (fun z => h z.1)
theorem nf_z {f a : Int32} {q : Nat} (h : a ≠ 0) : nf 0 f a q = nI q := if_pos ⟨rfl, h⟩
theorem c_subC {p N n m : Nat} {b : Bool} {T : Nat → Int32} {H : Nat → Int32} {k f : Int32} {M : ab_M} {K : ab_Q} {p0 p1 p2 p3 : Nat} {k1 k2 k3 k4 f1 f2 f3 f4 : Int32} (hT : TT b M T N) (hp : p < N) (hm : m < 5) (hn : n ≤ 5) (h5 : mI M (dl b) 5 = nI n) (h6 : mI M (dl b) 6 = nI m) (hH : ∀ l, l < n → mI M (dl b + 3) l = H l) (e0 : p0 = p + 1) (e1 : p1 = npP T N p0) (e2 : p2 = npP T N p1) (e3 : p3 = npP T N p2) (g1 : k1 = nt k (nkP T N p0 999)) (g2 : k2 = nt k1 (nkP T N p1 50)) (g3 : k3 = nt k2 (nkP T N p2 (nI n - 1))) (g4 : k4 = nt k3 (kh n (nvP T N p2) (H (nvP T N p2)))) (u1 : f1 = nf k f (nkP T N p0 999) (skP T N p0)) (u2 : f2 = nf k1 f1 (nkP T N p1 50) (skP T N p1)) (u3 : f3 = nf k2 f2 (nkP T N p2 (nI n - 1)) (skP T N p2)) (u4 : f4 = nf k3 f3 (kh n (nvP T N p2) (H (nvP T N p2))) (skP T N p2)) : EvD 4 55 [.ref 1, .ref (dl b)] (tx M p k f) K = K none (tx (if nvP T N p2 < n then suM b M m (nvP T N p0) (nvP T N p1) (nvP T N p2) else M) (epP T N p3) (nt k4 (ekP T N p3)) (nf k4 f4 (ekP T N p3) (skP T N p3))) := by
  have hS0 := hT.1
  have hd := dl_c b
  have hk1 : mK M 1 = 8 := by rw [hS0.1]; rfl
  have hkd : mK M (dl b) = 1 := by rw [hS0.1]; exact dK
  have l0 : p0 ≤ N := by omega
  have l1 := npP_le (T := T) l0
  have l2 := npP_le (T := T) (p := p1) (N := N) (by omega)
  have l3 := npP_le (T := T) (p := p2) (N := N) (by omega)
  have hs2 := skP_le (T := T) (p := p2) (N := N) (by omega)
  have r1 : ∀ K, EvD 3 56 [.ref 1, .int 999] (tx M p0 k f) K = K (some (.int (nI (nvP T N p0)))) (tx M p1 k1 f1) := fun K => by rw [c_readNum (Nat.le_refl 3) hT l0, ← e1, ← g1, ← u1]
  have r2 : ∀ K, EvD 3 56 [.ref 1, .int 50] (tx M p1 k1 f1) K = K (some (.int (nI (nvP T N p1)))) (tx M p2 k2 f2) := fun K => by rw [c_readNum (Nat.le_refl 3) hT (by omega), ← e2, ← g2, ← u2]
  have rs : ∀ K, EvD 3 58 [.ref 1] (tx M p2 k2 f2) K = K none (tx M (skP T N p2) k2 f2) := fun K => c_skip (by decide) hT (by omega)
  have r3 : ∀ K, EvD 3 56 [.ref 1, .int (nI n - 1)] (tx M (skP T N p2) k2 f2) K = K (some (.int (nI (nvP T N p2)))) (tx M p3 k3 f3) := fun K => by rw [c_readNum (Nat.le_refl 3) hT hs2.2, npP_s (by omega), nvP_s (by omega), nkP_s (by omega), skP_skP (by omega), ← e3, ← g3, ← u3]
  have r5 : ∀ K, EvD 3 57 [.ref 1] (tx M p3 k4 f4) K = K none (tx M (epP T N p3) (nt k4 (ekP T N p3)) (nf k4 f4 (ekP T N p3) (skP T N p3))) := fun K => c_readEnd (Nat.le_refl 3) hT (by omega)
  have e5 : ∀ p k f, mI (tx M p k f) (dl b) 5 = nI n := fun _ _ _ => by rw [tx_o (by omega)]; exact h5
  have e6 : mI (tx M p k f) (dl b) 6 = nI m := by rw [tx_o (by omega)]; exact h6
  have z1 : (nI m < 5) = True := by rw [show (5 : Int32) = nI 5 from rfl, nI_ltE (by omega) (by decide)]; exact eq_true (by omega)
  have hv := nvP_lt (T := T) (N := N) (p := p2)
  have hh : (0 ≤ nI (nvP T N p2) ∧ nI (nvP T N p2) < nI n) = (nvP T N p2 < n) := by
    rw [nI_ltE (by omega) (by omega)]
    exact propext ⟨fun z => z.2, fun z => ⟨nI_pos' (by omega), z⟩⟩
  have hlf : ∀ K, EvD 3 8 [.ref (dl b), .int (nI (nvP T N p2))] (tx M p3 k3 f3) K = K (some (.int (bI (nvP T N p2 < n)))) (tx M p3 k3 f3) := fun K => by
    rw [c_hasLife (d := 3) (by decide) (show mK (tx M p3 k3 f3) (dl b) = 1 from hkd), e5]
    congr 3
    exact bI_congr (by rw [hh])
  have rA := fun K => c_addSub (p := epP T N p3) (k := nt k4 (ekP T N p3)) (f := nf k4 f4 (ekP T N p3) (skP T N p3)) (M := M) (K := K) (u := nvP T N p0) (x := nvP T N p1) hS0 hm hn hv h5 h6
  rw [b_55 (Nat.le_refl 4)]
  simp +decide only [e_55_0, e_55_1, e_55_4, e_55_5, e_55_8, e_55_9, e_55_10, e_55_11, e_55_14, e_55_17, e_55_18, e_55_19, e_55_19r, e_55_20, e_55_23, e_55_24, e_55_25, e_55_28, e_55_29, e_55_32, ↓reduceIte, Int32.reduceAdd, Int32.reduceSub, an_0, an_1, an_2, an_3, an_4, an_5, tc_0, tc_1, tc_2, tc_3, tc_4, tc_5, tc_6, tc_7, tc_8, tc_9, tc_10, tc_11, tc_12, tc_13, tc_14, tc_15, tc_16, tc_17, tc_18, tc_19, tc_20, tc_21, tc_22, tc_23, tc_24, tc_25, tc_26, tc_27, tc_28, tc_29, tc_30, tc_31, tc_32, lcl_none, lcl_int, lcl_ref, lcl_null, lcl_long, okR_nil, okR_int, okR_ref, okR_null, okR_long, pushR_some, pushR_none, va_rf_some, va_rf_none, true_and, and_true, true_implies, false_implies, not_true_eq_false, not_false_eq_true, implies_true, bI_eq0, bI_eq1, bI_01, Classical.not_not, or_em, false_and, and_false, mK_tx, hk1, hkd, e6, z1, tx_2, nI_1, tx_wp]
  rw [← e0]
  simp +decide only [r1, r2, rs, r3, e_55_35, e_55_36, e_55_37, e_55_39, e_55_42, e_55_43, e_55_44, e_55_47, e_55_48, e_55_51, e_55_53, e_55_54, e_55_55, e_55_58, e_55_59, e_55_60, e_55_63, e_55_65, e_55_66, e_55_68, e_55_71, ↓reduceIte, Int32.reduceAdd, Int32.reduceSub, an_0, an_1, an_2, an_3, an_4, an_5, tc_0, tc_1, tc_2, tc_3, tc_4, tc_5, tc_6, tc_7, tc_8, tc_9, tc_10, tc_11, tc_12, tc_13, tc_14, tc_15, tc_16, tc_17, tc_18, tc_19, tc_20, tc_21, tc_22, tc_23, tc_24, tc_25, tc_26, tc_27, tc_28, tc_29, tc_30, tc_31, tc_32, lcl_none, lcl_int, lcl_ref, lcl_null, lcl_long, okR_nil, okR_int, okR_ref, okR_null, okR_long, pushR_some, pushR_none, va_rf_some, va_rf_none, true_and, and_true, true_implies, false_implies, not_true_eq_false, not_false_eq_true, implies_true, bI_eq0, bI_eq1, bI_01, Classical.not_not, or_em, false_and, and_false, mK_tx, hk1, hkd, tx_2, e5, hlf]
  by_cases hln : nvP T N p2 < n
  · have hln' : (nvP T N p2 < n) = True := eq_true hln
    have hcl : (nI (nvP T N p2)).toNatClampNeg = nvP T N p2 := nI_clamp (by omega)
    have hin : inX (nI (nvP T N p2)) 5 = True := eq_true (inX_nI (by decide) (by omega))
    have hho : mI (tx M p3 k3 f3) (dl b + 3) (nvP T N p2) = H (nvP T N p2) := by rw [tx_o (by omega)]; exact hH _ hln
    have hr3 : ∀ p k f, mR (tx M p k f) (dl b) 9 = some (dl b + 3) := fun _ _ _ => by show mR M (dl b) 9 = _; rw [hS0.2.2.1]; exact dR9
    have hk3 : ∀ p k f, mK (tx M p k f) (dl b + 3) = 20 := fun _ _ _ => by show mK M (dl b + 3) = _; rw [hS0.1]; exact dK3
    have hn3 : ∀ p k f, mN (tx M p k f) (dl b + 3) = 5 := fun _ _ _ => by show mN M (dl b + 3) = _; rw [hS0.2.1]; exact dN3
    have hk3' : mK M (dl b + 3) = 20 := by rw [hS0.1]; exact dK3
    by_cases hm1 : H (nvP T N p2) = -1
    · have ekh : kh n (nvP T N p2) (H (nvP T N p2)) = 0 := if_neg (fun z => z.2 hm1)
      rw [ekh] at g4 u4
      rw [nt_0] at g4
      rw [nf_0] at u4
      have hm1' : (H (nvP T N p2) = -1) = True := eq_true hm1
      rw [g4, u4] at r5 rA
      simp +decide only [e_55_74, e_55_75, e_55_78, e_55_80, e_55_81, e_55_82, e_55_85, e_55_86, e_55_87, e_55_89, e_55_92, e_55_93, ↓reduceIte, Int32.reduceAdd, Int32.reduceSub, an_0, an_1, an_2, an_3, an_4, an_5, tc_0, tc_1, tc_2, tc_3, tc_4, tc_5, tc_6, tc_7, tc_8, tc_9, tc_10, tc_11, tc_12, tc_13, tc_14, tc_15, tc_16, tc_17, tc_18, tc_19, tc_20, tc_21, tc_22, tc_23, tc_24, tc_25, tc_26, tc_27, tc_28, tc_29, tc_30, tc_31, tc_32, lcl_none, lcl_int, lcl_ref, lcl_null, lcl_long, okR_nil, okR_int, okR_ref, okR_null, okR_long, pushR_some, pushR_none, va_rf_some, va_rf_none, true_and, and_true, true_implies, false_implies, not_true_eq_false, not_false_eq_true, implies_true, bI_eq0, bI_eq1, bI_01, Classical.not_not, or_em, false_and, and_false, hln', mK_tx, hk1, hkd, hr3, hk3', hn3, hcl, hin, hho, hm1', r5, e_55_96, e_55_97, e_55_98, e_55_99, e_55_101, e_55_104, rA]
      rw [g4, u4]
    · have ekh : kh n (nvP T N p2) (H (nvP T N p2)) = 4 := if_pos ⟨hln, hm1⟩
      rw [ekh] at g4 u4
      have hm1' : (H (nvP T N p2) = -1) = False := eq_false hm1
      have hnote : ∀ K, EvD 3 61 [.ref 1, .int 4, .int (nI (skP T N p2))] (tx M p3 k3 f3) K = K none (tx M p3 k4 f4) := fun K => by
        rw [c_note (d := 3) (by decide) hS0, g4, u4]
        unfold nt nf
        by_cases hk : k3 = 0 <;> simp [hk]
      simp +decide only [e_55_74, e_55_75, e_55_78, e_55_80, e_55_81, e_55_82, e_55_85, e_55_86, e_55_87, e_55_89, e_55_92, e_55_93, ↓reduceIte, Int32.reduceAdd, Int32.reduceSub, an_0, an_1, an_2, an_3, an_4, an_5, tc_0, tc_1, tc_2, tc_3, tc_4, tc_5, tc_6, tc_7, tc_8, tc_9, tc_10, tc_11, tc_12, tc_13, tc_14, tc_15, tc_16, tc_17, tc_18, tc_19, tc_20, tc_21, tc_22, tc_23, tc_24, tc_25, tc_26, tc_27, tc_28, tc_29, tc_30, tc_31, tc_32, lcl_none, lcl_int, lcl_ref, lcl_null, lcl_long, okR_nil, okR_int, okR_ref, okR_null, okR_long, pushR_some, pushR_none, va_rf_some, va_rf_none, true_and, and_true, true_implies, false_implies, not_true_eq_false, not_false_eq_true, implies_true, bI_eq0, bI_eq1, bI_01, Classical.not_not, or_em, false_and, and_false, hln', mK_tx, hk1, hkd, hr3, hk3', hn3, hcl, hin, hho, hm1', hnote, r5, e_55_96, e_55_97, e_55_98, e_55_99, e_55_101, e_55_104, rA]
  · have hln' : (nvP T N p2 < n) = False := eq_false hln
    have ekh : kh n (nvP T N p2) (H (nvP T N p2)) = 0 := if_neg (fun z => hln z.1)
    rw [ekh] at g4 u4
    rw [nt_0] at g4
    rw [nf_0] at u4
    rw [g4, u4] at r5 rA
    simp +decide only [e_55_92, e_55_93, ↓reduceIte, Int32.reduceAdd, Int32.reduceSub, an_0, an_1, an_2, an_3, an_4, an_5, tc_0, tc_1, tc_2, tc_3, tc_4, tc_5, tc_6, tc_7, tc_8, tc_9, tc_10, tc_11, tc_12, tc_13, tc_14, tc_15, tc_16, tc_17, tc_18, tc_19, tc_20, tc_21, tc_22, tc_23, tc_24, tc_25, tc_26, tc_27, tc_28, tc_29, tc_30, tc_31, tc_32, lcl_none, lcl_int, lcl_ref, lcl_null, lcl_long, okR_nil, okR_int, okR_ref, okR_null, okR_long, pushR_some, pushR_none, va_rf_some, va_rf_none, true_and, and_true, true_implies, false_implies, not_true_eq_false, not_false_eq_true, implies_true, bI_eq0, bI_eq1, bI_01, Classical.not_not, or_em, false_and, and_false, hln', mK_tx, hk1, hkd, r5, e_55_96, e_55_97, e_55_98, e_55_99, e_55_101, e_55_104, rA]
    rw [g4, u4]
