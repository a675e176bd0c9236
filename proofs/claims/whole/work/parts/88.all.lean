/-! the whole text, on both sides -/
def PcF (T : Nat → Int32) (N p : Nat) (hp : Bool) (n m : Nat) (D : Nat → Nat → Int32) (kd v : Int32) : Prop := ∀ (b : Bool) (M : ab_M) (cl : Nat) (f : Int32) (Q : ab_Q), TT b M T N → CD b M hp n m D → cl ≤ p → (∀ M1 p', Sh b M1 → FC b M M1 → Q (some (.int kd)) (tx M1 p' kd v)) → Ev 5 51 25 [some (.ref 1), some (.ref (dl b)), some (.int (nI cl))] [] (tx M p 0 f) Q
def PcS (T : Nat → Int32) (N p : Nat) (hp : Bool) (n m : Nat) (D : Nat → Nat → Int32) (hp2 : Bool) (n2 m2 : Nat) (D2 : Nat → Nat → Int32) : Prop := ∀ (b : Bool) (M : ab_M) (cl : Nat) (f : Int32) (Q : ab_Q), TT b M T N → CD b M hp n m D → cl ≤ p → (∀ M1 p', Sh b M1 → FC b M M1 → CD b M1 hp2 n2 m2 D2 → Q (some (.int 0)) (tx M1 p' 0 f)) → Ev 5 51 25 [some (.ref 1), some (.ref (dl b)), some (.int (nI cl))] [] (tx M p 0 f) Q
def PmF (T : Nat → Int32) (N p : Nat) (hp : Bool) (n m : Nat) (D : Nat → Nat → Int32) (kd v : Int32) : Prop := ∀ (b : Bool) (M : ab_M) (nu g : Nat) (Q : ab_Q), TM b M T N → MD M hp n m D → (∀ M1, FQ b M M1 kd v → Q (some (.int 0)) M1) → Ev 5 133 24 [some (.ref 102)] [] (md M (npT T N p) p (ntT T N p) nu g) Q
def PmS (T : Nat → Int32) (N p : Nat) (hp : Bool) (n m : Nat) (D : Nat → Nat → Int32) (hp2 : Bool) (n2 m2 : Nat) (D2 : Nat → Nat → Int32) : Prop := ∀ (b : Bool) (M : ab_M) (nu g : Nat) (Q : ab_Q), TM b M T N → MD M hp n m D → (∀ M1, Sh b M1 → FR M M1 → MD M1 hp2 n2 m2 D2 → Q (some (.int 1)) M1) → Ev 5 133 24 [some (.ref 102)] [] (md M (npT T N p) p (ntT T N p) nu g) Q
def Out (T : Nat → Int32) (N p : Nat) (hp : Bool) (n m : Nat) (D : Nat → Nat → Int32) : Prop := (∃ kd v, kd ≠ 0 ∧ PcF T N p hp n m D kd v ∧ PmF T N p hp n m D kd v) ∨ ∃ hp2 n2 m2 D2, DV hp2 n2 m2 D2 ∧ PcS T N p hp n m D hp2 n2 m2 D2 ∧ PmS T N p hp n m D hp2 n2 m2 D2
theorem npT_s {T : Nat → Int32} {N p : Nat} (h : p ≤ N) : npT T N (skP T N p) = npT T N p := by unfold npT; rw [skP_skP h, npP_s h]
theorem ntT_s {T : Nat → Int32} {N p : Nat} (h : p ≤ N) : ntT T N (skP T N p) = ntT T N p := by unfold ntT; rw [skP_skP h]
theorem MD_md {M : ab_M} {p ta nu g : Nat} {t : Int32} {hp : Bool} {n m : Nat} {D : Nat → Nat → Int32} (h : MD M hp n m D) : MD (md M p ta t nu g) hp n m D := by
  unfold MD at h ⊢
  rw [md_i (by decide), md_i (by decide), md_i (by decide), md_o (a := 104) (by decide), md_o (a := 105) (by decide), md_o (a := 106) (by decide)]
  exact h
theorem FQ_t {b : Bool} {M0 M M1 : ab_M} {kd v : Int32} (h : FR M0 M) (h1 : FQ b M M1 kd v) : FQ b M0 M1 kd v := ⟨h1.1, FR_t h h1.2.1, h1.2.2⟩
theorem C_ex {N p : Nat} {b : Bool} {T : Nat → Int32} {kd v x : Int32} {M : ab_M} {Q : ab_Q} (hT : TT b M T N) (hp : p ≤ N) (hk : kd ≠ 0) (hQ : Q (some (.int kd)) (tx M p kd v)) : Ev 5 51 25 [some (.ref 1), some (.ref (dl b)), some (.int x)] [] (tx M p kd v) Q := by
  have hN := hT.2.2.1
  have hk1 : mK M 1 = 8 := by rw [hT.1.1]; rfl
  have e1 : mI (tx M p kd v) 1 1 = nI N := by rw [tx_1]; exact hT.2.1
  have hk' : (kd = 0) = False := eq_false hk
  rw [e_51_25]
  by_cases h1 : (220 : Int32) ≤ x
  · have h1' : ((220 : Int32) ≤ x) = True := eq_true h1
    simp +decide only [e_51_26, e_51_29, e_51_65, e_51_66, e_51_69, ↓reduceIte, Int32.reduceAdd, Int32.reduceSub, an_0, an_1, an_2, an_3, an_4, an_5, tc_0, tc_1, tc_2, tc_3, tc_4, tc_5, tc_6, tc_7, tc_8, tc_9, tc_10, tc_11, tc_12, tc_13, tc_14, tc_15, tc_16, tc_17, tc_18, tc_19, tc_20, tc_21, tc_22, tc_23, tc_24, tc_25, tc_26, tc_27, tc_28, tc_29, tc_30, tc_31, tc_32, lcl_none, lcl_int, lcl_ref, lcl_null, lcl_long, okR_nil, okR_int, okR_ref, okR_null, okR_long, pushR_some, pushR_none, va_rf_some, va_rf_none, true_and, and_true, true_implies, false_implies, not_true_eq_false, not_false_eq_true, implies_true, bI_eq0, bI_eq1, bI_01, Classical.not_not, or_em, false_and, and_false, mK_tx, hk1, h1', tx_3]
    exact hQ
  · have h1' : ((220 : Int32) ≤ x) = False := eq_false h1
    by_cases h2 : p < N
    · have z : (nI N ≤ nI p) = False := by rw [nI_leE (by omega) (by omega)]; exact eq_false (by omega)
      simp +decide only [e_51_26, e_51_29, e_51_32, e_51_33, e_51_36, e_51_37, e_51_40, e_51_43, e_51_44, e_51_47, e_51_65, e_51_66, e_51_69, ↓reduceIte, Int32.reduceAdd, Int32.reduceSub, an_0, an_1, an_2, an_3, an_4, an_5, tc_0, tc_1, tc_2, tc_3, tc_4, tc_5, tc_6, tc_7, tc_8, tc_9, tc_10, tc_11, tc_12, tc_13, tc_14, tc_15, tc_16, tc_17, tc_18, tc_19, tc_20, tc_21, tc_22, tc_23, tc_24, tc_25, tc_26, tc_27, tc_28, tc_29, tc_30, tc_31, tc_32, lcl_none, lcl_int, lcl_ref, lcl_null, lcl_long, okR_nil, okR_int, okR_ref, okR_null, okR_long, pushR_some, pushR_none, va_rf_some, va_rf_none, true_and, and_true, true_implies, false_implies, not_true_eq_false, not_false_eq_true, implies_true, bI_eq0, bI_eq1, bI_01, Classical.not_not, or_em, false_and, and_false, mK_tx, hk1, h1', tx_2, tx_3, e1, z, hk']
      exact hQ
    · have z : (nI N ≤ nI p) = True := by rw [nI_leE (by omega) (by omega)]; exact eq_true (by omega)
      simp +decide only [e_51_26, e_51_29, e_51_32, e_51_33, e_51_36, e_51_37, e_51_40, e_51_65, e_51_66, e_51_69, ↓reduceIte, Int32.reduceAdd, Int32.reduceSub, an_0, an_1, an_2, an_3, an_4, an_5, tc_0, tc_1, tc_2, tc_3, tc_4, tc_5, tc_6, tc_7, tc_8, tc_9, tc_10, tc_11, tc_12, tc_13, tc_14, tc_15, tc_16, tc_17, tc_18, tc_19, tc_20, tc_21, tc_22, tc_23, tc_24, tc_25, tc_26, tc_27, tc_28, tc_29, tc_30, tc_31, tc_32, lcl_none, lcl_int, lcl_ref, lcl_null, lcl_long, okR_nil, okR_int, okR_ref, okR_null, okR_long, pushR_some, pushR_none, va_rf_some, va_rf_none, true_and, and_true, true_implies, false_implies, not_true_eq_false, not_false_eq_true, implies_true, bI_eq0, bI_eq1, bI_01, Classical.not_not, or_em, false_and, and_false, mK_tx, hk1, h1', tx_2, tx_3, e1, z]
      exact hQ
theorem C_end {N cl : Nat} {b : Bool} {T : Nat → Int32} {f : Int32} {M : ab_M} {Q : ab_Q} (hT : TT b M T N) (hQ : Q (some (.int 0)) (tx M N 0 f)) : Ev 5 51 25 [some (.ref 1), some (.ref (dl b)), some (.int (nI cl))] [] (tx M N 0 f) Q := by
  have hN := hT.2.2.1
  have hk1 : mK M 1 = 8 := by rw [hT.1.1]; rfl
  have e1 : mI (tx M N 0 f) 1 1 = nI N := by rw [tx_1]; exact hT.2.1
  have z : (nI N ≤ nI N) = True := eq_true (Int32.le_refl _)
  rw [e_51_25]
  by_cases h1 : (220 : Int32) ≤ nI cl
  · have h1' : ((220 : Int32) ≤ nI cl) = True := eq_true h1
    simp +decide only [e_51_26, e_51_29, e_51_65, e_51_66, e_51_69, ↓reduceIte, Int32.reduceAdd, Int32.reduceSub, an_0, an_1, an_2, an_3, an_4, an_5, tc_0, tc_1, tc_2, tc_3, tc_4, tc_5, tc_6, tc_7, tc_8, tc_9, tc_10, tc_11, tc_12, tc_13, tc_14, tc_15, tc_16, tc_17, tc_18, tc_19, tc_20, tc_21, tc_22, tc_23, tc_24, tc_25, tc_26, tc_27, tc_28, tc_29, tc_30, tc_31, tc_32, lcl_none, lcl_int, lcl_ref, lcl_null, lcl_long, okR_nil, okR_int, okR_ref, okR_null, okR_long, pushR_some, pushR_none, va_rf_some, va_rf_none, true_and, and_true, true_implies, false_implies, not_true_eq_false, not_false_eq_true, implies_true, bI_eq0, bI_eq1, bI_01, Classical.not_not, or_em, false_and, and_false, mK_tx, hk1, h1', tx_3]
    exact hQ
  · have h1' : ((220 : Int32) ≤ nI cl) = False := eq_false h1
    simp +decide only [e_51_26, e_51_29, e_51_32, e_51_33, e_51_36, e_51_37, e_51_40, e_51_65, e_51_66, e_51_69, ↓reduceIte, Int32.reduceAdd, Int32.reduceSub, an_0, an_1, an_2, an_3, an_4, an_5, tc_0, tc_1, tc_2, tc_3, tc_4, tc_5, tc_6, tc_7, tc_8, tc_9, tc_10, tc_11, tc_12, tc_13, tc_14, tc_15, tc_16, tc_17, tc_18, tc_19, tc_20, tc_21, tc_22, tc_23, tc_24, tc_25, tc_26, tc_27, tc_28, tc_29, tc_30, tc_31, tc_32, lcl_none, lcl_int, lcl_ref, lcl_null, lcl_long, okR_nil, okR_int, okR_ref, okR_null, okR_long, pushR_some, pushR_none, va_rf_some, va_rf_none, true_and, and_true, true_implies, false_implies, not_true_eq_false, not_false_eq_true, implies_true, bI_eq0, bI_eq1, bI_01, Classical.not_not, or_em, false_and, and_false, mK_tx, hk1, h1', tx_2, tx_3, e1, z]
    exact hQ
theorem C_go {N p cl : Nat} {b : Bool} {T : Nat → Int32} {f : Int32} {M : ab_M} {Q : ab_Q} (hT : TT b M T N) (hlt : p < N) (hcl : cl ≤ p) (h : EvD 5 52 [.ref 1, .ref (dl b)] (tx M p 0 f) (fun r M1 => r = none ∧ ∃ M2 p' k v, M1 = tx M2 p' k v ∧ TT b M2 T N ∧ p' ≤ N ∧ Ev 5 51 25 [some (.ref 1), some (.ref (dl b)), some (.int (nI (cl + 1)))] [] (tx M2 (skP T N p') k v) Q)) : Ev 5 51 25 [some (.ref 1), some (.ref (dl b)), some (.int (nI cl))] [] (tx M p 0 f) Q := by
  have hN := hT.2.2.1
  have hk1 : mK M 1 = 8 := by rw [hT.1.1]; rfl
  have e1 : mI (tx M p 0 f) 1 1 = nI N := by rw [tx_1]; exact hT.2.1
  have z : (nI N ≤ nI p) = False := by rw [nI_leE (by omega) (by omega)]; exact eq_false (by omega)
  have h1' : ((220 : Int32) ≤ nI cl) = False := by rw [show (220 : Int32) = nI 220 from rfl, nI_leE (by decide) (by omega)]; exact eq_false (by omega)
  rw [e_51_25]
  simp +decide only [e_51_26, e_51_29, e_51_32, e_51_33, e_51_36, e_51_37, e_51_40, e_51_43, e_51_44, e_51_47, e_51_50, e_51_51, e_51_52, ↓reduceIte, Int32.reduceAdd, Int32.reduceSub, an_0, an_1, an_2, an_3, an_4, an_5, tc_0, tc_1, tc_2, tc_3, tc_4, tc_5, tc_6, tc_7, tc_8, tc_9, tc_10, tc_11, tc_12, tc_13, tc_14, tc_15, tc_16, tc_17, tc_18, tc_19, tc_20, tc_21, tc_22, tc_23, tc_24, tc_25, tc_26, tc_27, tc_28, tc_29, tc_30, tc_31, tc_32, lcl_none, lcl_int, lcl_ref, lcl_null, lcl_long, okR_nil, okR_int, okR_ref, okR_null, okR_long, pushR_some, pushR_none, va_rf_some, va_rf_none, true_and, and_true, true_implies, false_implies, not_true_eq_false, not_false_eq_true, implies_true, bI_eq0, bI_eq1, bI_01, Classical.not_not, or_em, false_and, and_false, mK_tx, hk1, h1', tx_2, tx_3, e1, z]
  refine EvD_mono h ?_
  rintro r M1 ⟨rfl, M2, p', k, v, rfl, hT2, hp', hE⟩
  have hk2 : mK M2 1 = 8 := by rw [hT2.1.1]; rfl
  simp +decide only [e_51_55, e_51_56, e_51_59, e_51_62, ↓reduceIte, Int32.reduceAdd, Int32.reduceSub, an_0, an_1, an_2, an_3, an_4, an_5, tc_0, tc_1, tc_2, tc_3, tc_4, tc_5, tc_6, tc_7, tc_8, tc_9, tc_10, tc_11, tc_12, tc_13, tc_14, tc_15, tc_16, tc_17, tc_18, tc_19, tc_20, tc_21, tc_22, tc_23, tc_24, tc_25, tc_26, tc_27, tc_28, tc_29, tc_30, tc_31, tc_32, lcl_none, lcl_int, lcl_ref, lcl_null, lcl_long, okR_nil, okR_int, okR_ref, okR_null, okR_long, pushR_some, pushR_none, va_rf_some, va_rf_none, true_and, and_true, true_implies, false_implies, not_true_eq_false, not_false_eq_true, implies_true, bI_eq0, bI_eq1, bI_01, Classical.not_not, or_em, false_and, and_false, mK_tx, hk2, c_skip (d := 5) (by decide) hT2 hp', nI_1]
  exact hE
theorem parse {T : Nat → Int32} {N : Nat} (h0 : ∀ i, 0 ≤ T i) : ∀ q p hp n m D, N - p ≤ q → p ≤ N → skP T N p = p → DV hp n m D → Out T N p hp n m D := by
  intro q
  induction q with
  | zero =>
    intro p hp n m D hq hpN hs hv
    have e : p = N := by omega
    subst e
    refine Or.inr ⟨hp, n, m, D, hv, ?_, ?_⟩
    · intro b M cl f Q hT hC hcl hQ
      exact C_end hT (hQ M _ hT.1 FC_r hC)
    · intro b M nu g Q hT hM hQ
      have hk : mK M 102 = 11 := by rw [hT.1.1]; rfl
      have et : ntT T p p = -2 := by unfold ntT; rw [hs, if_neg (Nat.lt_irrefl p)]
      rw [e_133_24]
      simp +decide only [e_133_25, e_133_28, e_133_30, e_133_49, e_133_50, ↓reduceIte, Int32.reduceAdd, Int32.reduceSub, an_0, an_1, an_2, an_3, an_4, an_5, tc_0, tc_1, tc_2, tc_3, tc_4, tc_5, tc_6, tc_7, tc_8, tc_9, tc_10, tc_11, tc_12, tc_13, tc_14, tc_15, tc_16, tc_17, tc_18, tc_19, tc_20, tc_21, tc_22, tc_23, tc_24, tc_25, tc_26, tc_27, tc_28, tc_29, tc_30, tc_31, tc_32, lcl_none, lcl_int, lcl_ref, lcl_null, lcl_long, okR_nil, okR_int, okR_ref, okR_null, okR_long, pushR_some, pushR_none, va_rf_some, va_rf_none, true_and, and_true, true_implies, false_implies, not_true_eq_false, not_false_eq_true, implies_true, bI_eq0, bI_eq1, bI_01, Classical.not_not, or_em, false_and, and_false, mK_md, hk, md_4, et]
      exact hQ _ hT.1 (FR_md FR_r) (MD_md hM)
  | succ q ih =>
    intro p hp n m D hq hpN hs hv
    by_cases hlt : p < N
    · have hnt : (ntT T N p = -2) = False := by
        refine eq_false ?_
        unfold ntT
        rw [hs, if_pos hlt]
        split
        · decide
        · intro z
          have := h0 p
          rw [z] at this
          exact absurd this (by decide)
      rcases st_all hlt hs hv with ⟨kd, v, hk, hc, hm⟩ | ⟨e, hp2, n2, m2, D2, hpe, heN, hv2, hc, hm⟩
      · refine Or.inl ⟨kd, v, hk, ?_, ?_⟩
        · intro b M cl f Q hT hC hcl hQ
          refine C_go hT hlt hcl (hc b M f _ hT hC (fun M1 p' hT1 hF1 hp' => ⟨rfl, M1, p', kd, v, rfl, hT1, hp', C_ex hT1 (skP_le hp').2 hk (hQ M1 _ hT1.1 hF1)⟩))
        · intro b M nu g Q hT hM hQ
          have hk11 : mK M 102 = 11 := by rw [hT.1.1]; rfl
          rw [e_133_24]
          simp +decide only [e_133_25, e_133_28, e_133_30, e_133_33, e_133_34, ↓reduceIte, Int32.reduceAdd, Int32.reduceSub, an_0, an_1, an_2, an_3, an_4, an_5, tc_0, tc_1, tc_2, tc_3, tc_4, tc_5, tc_6, tc_7, tc_8, tc_9, tc_10, tc_11, tc_12, tc_13, tc_14, tc_15, tc_16, tc_17, tc_18, tc_19, tc_20, tc_21, tc_22, tc_23, tc_24, tc_25, tc_26, tc_27, tc_28, tc_29, tc_30, tc_31, tc_32, lcl_none, lcl_int, lcl_ref, lcl_null, lcl_long, okR_nil, okR_int, okR_ref, okR_null, okR_long, pushR_some, pushR_none, va_rf_some, va_rf_none, true_and, and_true, true_implies, false_implies, not_true_eq_false, not_false_eq_true, implies_true, bI_eq0, bI_eq1, bI_01, Classical.not_not, or_em, false_and, and_false, mK_md, hk11, md_4, hnt]
          refine hm b M nu g _ hT hM (fun M1 hF => ?_)
          simp +decide only [e_133_37, e_133_40, e_133_41, ↓reduceIte, Int32.reduceAdd, Int32.reduceSub, an_0, an_1, an_2, an_3, an_4, an_5, tc_0, tc_1, tc_2, tc_3, tc_4, tc_5, tc_6, tc_7, tc_8, tc_9, tc_10, tc_11, tc_12, tc_13, tc_14, tc_15, tc_16, tc_17, tc_18, tc_19, tc_20, tc_21, tc_22, tc_23, tc_24, tc_25, tc_26, tc_27, tc_28, tc_29, tc_30, tc_31, tc_32, lcl_none, lcl_int, lcl_ref, lcl_null, lcl_long, okR_nil, okR_int, okR_ref, okR_null, okR_long, pushR_some, pushR_none, va_rf_some, va_rf_none, true_and, and_true, true_implies, false_implies, not_true_eq_false, not_false_eq_true, implies_true, bI_eq0, bI_eq1, bI_01, Classical.not_not, or_em, false_and, and_false]
          exact hQ M1 hF
      · have hse := skP_le (T := T) heN
        have hih := ih (skP T N e) hp2 n2 m2 D2 (by omega) hse.2 (skP_skP heN) hv2
        rcases hih with ⟨kd, v, hk, hc2, hm2⟩ | ⟨hp3, n3, m3, D3, hv3, hc2, hm2⟩
        · refine Or.inl ⟨kd, v, hk, ?_, ?_⟩
          · intro b M cl f Q hT hC hcl hQ
            refine C_go hT hlt hcl (hc b M f _ hT hC (fun M1 hT1 hF1 hC1 => ⟨rfl, M1, e, 0, f, rfl, hT1, heN, hc2 b M1 (cl + 1) f Q hT1 hC1 (by omega) (fun M2 p' hS2 hF2 => hQ M2 p' hS2 (FC_t hF1 hF2))⟩))
          · intro b M nu g Q hT hM hQ
            have hk11 : mK M 102 = 11 := by rw [hT.1.1]; rfl
            rw [e_133_24]
            simp +decide only [e_133_25, e_133_28, e_133_30, e_133_33, e_133_34, ↓reduceIte, Int32.reduceAdd, Int32.reduceSub, an_0, an_1, an_2, an_3, an_4, an_5, tc_0, tc_1, tc_2, tc_3, tc_4, tc_5, tc_6, tc_7, tc_8, tc_9, tc_10, tc_11, tc_12, tc_13, tc_14, tc_15, tc_16, tc_17, tc_18, tc_19, tc_20, tc_21, tc_22, tc_23, tc_24, tc_25, tc_26, tc_27, tc_28, tc_29, tc_30, tc_31, tc_32, lcl_none, lcl_int, lcl_ref, lcl_null, lcl_long, okR_nil, okR_int, okR_ref, okR_null, okR_long, pushR_some, pushR_none, va_rf_some, va_rf_none, true_and, and_true, true_implies, false_implies, not_true_eq_false, not_false_eq_true, implies_true, bI_eq0, bI_eq1, bI_01, Classical.not_not, or_em, false_and, and_false, mK_md, hk11, md_4, hnt]
            refine hm b M nu g _ hT hM (fun M1 ta t nu g hT1 hF1 hM1 => ?_)
            have hk12 : mK M1 102 = 11 := by rw [hT1.1.1]; rfl
            simp +decide only [e_133_37, e_133_40, e_133_41, e_133_42, e_133_43, e_133_46, ↓reduceIte, Int32.reduceAdd, Int32.reduceSub, an_0, an_1, an_2, an_3, an_4, an_5, tc_0, tc_1, tc_2, tc_3, tc_4, tc_5, tc_6, tc_7, tc_8, tc_9, tc_10, tc_11, tc_12, tc_13, tc_14, tc_15, tc_16, tc_17, tc_18, tc_19, tc_20, tc_21, tc_22, tc_23, tc_24, tc_25, tc_26, tc_27, tc_28, tc_29, tc_30, tc_31, tc_32, lcl_none, lcl_int, lcl_ref, lcl_null, lcl_long, okR_nil, okR_int, okR_ref, okR_null, okR_long, pushR_some, pushR_none, va_rf_some, va_rf_none, true_and, and_true, true_implies, false_implies, not_true_eq_false, not_false_eq_true, implies_true, bI_eq0, bI_eq1, bI_01, Classical.not_not, or_em, false_and, and_false, mK_md, hk12, c_next (d := 5) (by decide) hT1 heN]
            have h9 := hm2 b M1 (nvP T N e) (ngP T N e) Q hT1 hM1 (fun M2 hF2 => hQ M2 (FQ_t hF1 hF2))
            rw [npT_s heN, ntT_s heN] at h9
            exact h9
        · refine Or.inr ⟨hp3, n3, m3, D3, hv3, ?_, ?_⟩
          · intro b M cl f Q hT hC hcl hQ
            refine C_go hT hlt hcl (hc b M f _ hT hC (fun M1 hT1 hF1 hC1 => ⟨rfl, M1, e, 0, f, rfl, hT1, heN, hc2 b M1 (cl + 1) f Q hT1 hC1 (by omega) (fun M2 p' hS2 hF2 hC3 => hQ M2 p' hS2 (FC_t hF1 hF2) hC3)⟩))
          · intro b M nu g Q hT hM hQ
            have hk11 : mK M 102 = 11 := by rw [hT.1.1]; rfl
            rw [e_133_24]
            simp +decide only [e_133_25, e_133_28, e_133_30, e_133_33, e_133_34, ↓reduceIte, Int32.reduceAdd, Int32.reduceSub, an_0, an_1, an_2, an_3, an_4, an_5, tc_0, tc_1, tc_2, tc_3, tc_4, tc_5, tc_6, tc_7, tc_8, tc_9, tc_10, tc_11, tc_12, tc_13, tc_14, tc_15, tc_16, tc_17, tc_18, tc_19, tc_20, tc_21, tc_22, tc_23, tc_24, tc_25, tc_26, tc_27, tc_28, tc_29, tc_30, tc_31, tc_32, lcl_none, lcl_int, lcl_ref, lcl_null, lcl_long, okR_nil, okR_int, okR_ref, okR_null, okR_long, pushR_some, pushR_none, va_rf_some, va_rf_none, true_and, and_true, true_implies, false_implies, not_true_eq_false, not_false_eq_true, implies_true, bI_eq0, bI_eq1, bI_01, Classical.not_not, or_em, false_and, and_false, mK_md, hk11, md_4, hnt]
            refine hm b M nu g _ hT hM (fun M1 ta t nu g hT1 hF1 hM1 => ?_)
            have hk12 : mK M1 102 = 11 := by rw [hT1.1.1]; rfl
            simp +decide only [e_133_37, e_133_40, e_133_41, e_133_42, e_133_43, e_133_46, ↓reduceIte, Int32.reduceAdd, Int32.reduceSub, an_0, an_1, an_2, an_3, an_4, an_5, tc_0, tc_1, tc_2, tc_3, tc_4, tc_5, tc_6, tc_7, tc_8, tc_9, tc_10, tc_11, tc_12, tc_13, tc_14, tc_15, tc_16, tc_17, tc_18, tc_19, tc_20, tc_21, tc_22, tc_23, tc_24, tc_25, tc_26, tc_27, tc_28, tc_29, tc_30, tc_31, tc_32, lcl_none, lcl_int, lcl_ref, lcl_null, lcl_long, okR_nil, okR_int, okR_ref, okR_null, okR_long, pushR_some, pushR_none, va_rf_some, va_rf_none, true_and, and_true, true_implies, false_implies, not_true_eq_false, not_false_eq_true, implies_true, bI_eq0, bI_eq1, bI_01, Classical.not_not, or_em, false_and, and_false, mK_md, hk12, c_next (d := 5) (by decide) hT1 heN]
            have h9 := hm2 b M1 (nvP T N e) (ngP T N e) Q hT1 hM1 (fun M2 hS2 hF2 hM3 => hQ M2 hS2 (FR_t hF1 hF2) hM3)
            rw [npT_s heN, ntT_s heN] at h9
            exact h9
    · exact ih p hp n m D (by omega) hpN hs hv
