/-! the readers' calls -/
theorem rT_sw {b : Bool} : u2 (u2 (rT b) 0 1 (some (dl b))) 0 2 (some (chL b)) = rT (!b) := by
  funext a k
  unfold u2 rT dl chL
  by_cases h1 : a = 0 ∧ k = 2
  · obtain ⟨rfl, rfl⟩ := h1
    cases b <;> rfl
  · rw [if_neg h1]
    by_cases h2 : a = 0 ∧ k = 1
    · obtain ⟨rfl, rfl⟩ := h2
      cases b <;> rfl
    · rw [if_neg h2, if_neg h2, if_neg h1, if_neg h2, if_neg h1]
def clM (b : Bool) (M : ab_M) : ab_M := wI (wI (wI (wI (wI (wI (wI M (dl b) 0 0) (dl b) 1 0) (dl b) 2 0) (dl b) 3 0) (dl b) 4 0) (dl b) 5 0) (dl b) 6 0
def D0 : Nat → Nat → Int32 := fun _ _ => 0
theorem DV_0 : DV false 0 0 D0 := ⟨by decide, by decide, fun _ => ⟨rfl, rfl, fun _ _ => rfl⟩, ⟨by decide, by decide, by decide, by decide⟩, fun k hk => absurd hk (Nat.not_lt_zero k), fun k hk => absurd hk (Nat.not_lt_zero k)⟩
theorem FC_cl {b : Bool} {M : ab_M} : FC b M (clM b M) := FC_w (i := 0) (FC_w (i := 0) (FC_w (i := 0) (FC_w (i := 0) (FC_w (i := 0) (FC_w (i := 0) (FC_w (i := 0) FC_r (by decide)) (by decide)) (by decide)) (by decide)) (by decide)) (by decide)) (by decide)
theorem TT_cl {b : Bool} {M : ab_M} {T : Nat → Int32} {N : Nat} (h : TT b M T N) : TT b (clM b M) T N := TT_d0 (TT_d0 (TT_d0 (TT_d0 (TT_d0 (TT_d0 (TT_d0 h))))))
theorem CD_cl {b : Bool} {M : ab_M} : CD b (clM b M) false 0 0 D0 := by
  unfold clM
  refine ⟨by simp [mI_wI, b01], by simp [mI_wI]; rfl, by simp [mI_wI]; rfl, fun i hi => ?_, fun k hk => absurd hk (Nat.not_lt_zero k), fun k hk => absurd hk (Nat.not_lt_zero k)⟩
  have : i = 0 ∨ i = 1 ∨ i = 2 ∨ i = 3 := by omega
  rcases this with rfl | rfl | rfl | rfl <;> simp [mI_wI, D0]
theorem CD_tx {b : Bool} {M : ab_M} {p n m : Nat} {k f : Int32} {hp : Bool} {D : Nat → Nat → Int32} (h : CD b M hp n m D) : CD b (tx M p k f) hp n m D := by
  have hd := dl_c b
  unfold CD at h ⊢
  rw [tx_o (a := dl b) (by omega), tx_o (a := dl b + 1) (by omega), tx_o (a := dl b + 2) (by omega), tx_o (a := dl b + 3) (by omega), tx_o (a := dl b + 4) (by omega), tx_o (a := dl b + 5) (by omega)]
  exact h
theorem C_read {N : Nat} {b : Bool} {T : Nat → Int32} {M : ab_M} {Q : ab_Q} (hT : TT b M T N) (h : Ev 5 51 25 [some (.ref 1), some (.ref (dl b)), some (.int (nI 0))] [] (tx (clM b M) (skP T N 0) 0 (-1)) Q) : EvD 6 51 [.ref 1, .ref (dl b)] M Q := by
  have hS0 := hT.1
  have hd := dl_c b
  have hk1 : mK M 1 = 8 := by rw [hS0.1]; rfl
  have hkd : mK M (dl b) = 1 := by rw [hS0.1]; exact dK
  have et : wI (wI (wI M 1 2 0) 1 3 0) 1 4 (-1) = tx M 0 0 (-1) := rfl
  have hcl : ∀ K, EvD 5 7 [.ref (dl b)] (tx M 0 0 (-1)) K = K none (tx (clM b M) 0 0 (-1)) := fun K => by
    rw [b_7 (by decide)]
    simp +decide only [e_7_0, e_7_1, e_7_2, e_7_5, e_7_6, e_7_7, e_7_10, e_7_11, e_7_12, e_7_15, e_7_16, e_7_17, e_7_20, e_7_21, e_7_22, e_7_25, e_7_26, e_7_27, e_7_30, e_7_31, e_7_32, e_7_35, ↓reduceIte, Int32.reduceAdd, Int32.reduceSub, an_0, an_1, an_2, an_3, an_4, an_5, tc_0, tc_1, tc_2, tc_3, tc_4, tc_5, tc_6, tc_7, tc_8, tc_9, tc_10, tc_11, tc_12, tc_13, tc_14, tc_15, tc_16, tc_17, tc_18, tc_19, tc_20, tc_21, tc_22, tc_23, tc_24, tc_25, tc_26, tc_27, tc_28, tc_29, tc_30, tc_31, tc_32, lcl_none, lcl_int, lcl_ref, lcl_null, lcl_long, okR_nil, okR_int, okR_ref, okR_null, okR_long, pushR_some, pushR_none, va_rf_some, va_rf_none, true_and, and_true, true_implies, false_implies, not_true_eq_false, not_false_eq_true, implies_true, bI_eq0, bI_eq1, bI_01, Classical.not_not, or_em, false_and, and_false, mK_wI, mK_tx, hkd]
    simp only [tx_d0]
    rfl
  rw [b_51 (Nat.le_refl 6)]
  simp +decide only [e_51_0, e_51_1, e_51_2, e_51_5, e_51_6, e_51_7, e_51_10, e_51_11, e_51_12, e_51_15, e_51_16, e_51_19, e_51_20, e_51_23, e_51_24, ↓reduceIte, Int32.reduceAdd, Int32.reduceSub, an_0, an_1, an_2, an_3, an_4, an_5, tc_0, tc_1, tc_2, tc_3, tc_4, tc_5, tc_6, tc_7, tc_8, tc_9, tc_10, tc_11, tc_12, tc_13, tc_14, tc_15, tc_16, tc_17, tc_18, tc_19, tc_20, tc_21, tc_22, tc_23, tc_24, tc_25, tc_26, tc_27, tc_28, tc_29, tc_30, tc_31, tc_32, lcl_none, lcl_int, lcl_ref, lcl_null, lcl_long, okR_nil, okR_int, okR_ref, okR_null, okR_long, pushR_some, pushR_none, va_rf_some, va_rf_none, true_and, and_true, true_implies, false_implies, not_true_eq_false, not_false_eq_true, implies_true, bI_eq0, bI_eq1, bI_01, Classical.not_not, or_em, false_and, and_false, mK_wI, hk1, et, hcl, show mK (tx (clM b M) 0 0 (-1)) 1 = mK M 1 from rfl, c_skip (d := 5) (by decide) (TT_cl hT) (Nat.zero_le N)]
  exact ⟨hkd, h⟩
theorem nI_toN (x : Int32) : nI x.toBitVec.toNat = x := by
  rw [← Int32.toBitVec_inj]
  show (Int32.ofNat x.toBitVec.toNat).toBitVec = x.toBitVec
  rw [Int32.toBitVec_ofNat']
  exact BitVec.ofNat_toNat _ _
theorem md_ex (M : ab_M) : ∃ ta t nu g, wI M 102 2 0 = md M 0 ta t nu g := by
  refine ⟨(mI M 102 3).toBitVec.toNat, mI M 102 4, (mI M 102 5).toBitVec.toNat, (mI M 102 6).toBitVec.toNat, ?_⟩
  refine wI_ext ?_ rfl
  funext a j
  unfold md
  rw [nI_toN, nI_toN, nI_toN]
  simp only [mI_wI]
  by_cases h1 : a = 102
  · by_cases h2 : j = 6
    · simp [h1, h2]
    · by_cases h3 : j = 5
      · simp [h1, h3]
      · by_cases h4 : j = 4
        · simp [h1, h4]
        · by_cases h5 : j = 3
          · simp [h1, h5]
          · simp [h1, h2, h3, h4, h5]
            rfl
  · simp [h1]
def rdM (M : ab_M) : ab_M := wI (wI (wI M 102 9 0) 102 10 0) 102 11 0
theorem FR_rd {M : ab_M} : FR M (rdM M) := FR_w (FR_w (FR_w FR_r (by omega)) (by omega)) (by omega)
theorem TM_rd {b : Bool} {M : ab_M} {T : Nat → Int32} {N : Nat} (h : TM b M T N) : TM b (rdM M) T N := TM_w (TM_w (TM_w h (by omega)) (by omega)) (by omega)
theorem MD_rd {M : ab_M} : MD (rdM M) false 0 0 D0 := by
  unfold rdM
  exact ⟨by simp [mI_wI, b01], by simp [mI_wI]; rfl, by simp [mI_wI]; rfl, fun h => absurd h (by decide), fun k hk => absurd hk (Nat.not_lt_zero k), fun k hk => absurd hk (Nat.not_lt_zero k)⟩
theorem M_read {N : Nat} {b : Bool} {T : Nat → Int32} {M : ab_M} {Q : ab_Q} (hT : TM b M T N) (h : ∀ nu g, Ev 5 133 24 [some (.ref 102)] [] (md (rdM M) (npT T N (skP T N 0)) (skP T N 0) (ntT T N (skP T N 0)) nu g) Q) : EvD 6 133 [.ref 102] M Q := by
  obtain ⟨ta, t, nu, g, hmd⟩ := md_ex M
  have hk : mK M 102 = 11 := by rw [hT.1.1]; rfl
  have h9 := h (nvP T N 0) (ngP T N 0)
  rw [npT_s (Nat.zero_le N), ntT_s (Nat.zero_le N)] at h9
  have hTr := TM_rd hT
  unfold rdM at hTr h9
  rw [b_133 (Nat.le_refl 6)]
  simp +decide only [e_133_0, e_133_1, e_133_2, e_133_5, e_133_6, e_133_7, e_133_10, e_133_11, e_133_12, e_133_15, e_133_16, e_133_17, e_133_20, e_133_21, ↓reduceIte, Int32.reduceAdd, Int32.reduceSub, an_0, an_1, an_2, an_3, an_4, an_5, tc_0, tc_1, tc_2, tc_3, tc_4, tc_5, tc_6, tc_7, tc_8, tc_9, tc_10, tc_11, tc_12, tc_13, tc_14, tc_15, tc_16, tc_17, tc_18, tc_19, tc_20, tc_21, tc_22, tc_23, tc_24, tc_25, tc_26, tc_27, tc_28, tc_29, tc_30, tc_31, tc_32, lcl_none, lcl_int, lcl_ref, lcl_null, lcl_long, okR_nil, okR_int, okR_ref, okR_null, okR_long, pushR_some, pushR_none, va_rf_some, va_rf_none, true_and, and_true, true_implies, false_implies, not_true_eq_false, not_false_eq_true, implies_true, bI_eq0, bI_eq1, bI_01, Classical.not_not, or_em, false_and, and_false, mK_wI, mK_md, hk, hmd, md_wh9, md_wh10, md_wh11, c_next (d := 5) (by decide) hTr (Nat.zero_le N)]
  exact h9
