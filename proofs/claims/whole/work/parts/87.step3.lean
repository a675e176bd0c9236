/-! one clause: lives, people, and what can't stand -/
theorem st_no {T : Nat → Int32} {N p n m : Nat} {D : Nat → Nat → Int32} (hlt : p < N) (hs : skP T N p = p) (h112 : T p ≠ 112) : StC T N p false n m D := by
  refine Or.inl ⟨1, nI p, by decide, ?_, ?_⟩
  · intro b M f Q hT hC hQ
    have hd := dl_c b
    have hk1 : mK M 1 = 8 := by rw [hT.1.1]; rfl
    have h112' : (T p = 112) = False := eq_false h112
    refine C_cl hT hlt hC.1 (fun _ => ?_) (fun h => absurd h (by decide)) (fun h => absurd h (by decide)) (fun h => absurd h (by decide))
    rw [b_53 (Nat.le_refl 4)]
    simp +decide only [e_53_0, e_53_1, e_53_3, e_53_6, e_53_7, e_53_8, e_53_9, e_53_12, e_53_15, ↓reduceIte, Int32.reduceAdd, Int32.reduceSub, an_0, an_1, an_2, an_3, an_4, an_5, tc_0, tc_1, tc_2, tc_3, tc_4, tc_5, tc_6, tc_7, tc_8, tc_9, tc_10, tc_11, tc_12, tc_13, tc_14, tc_15, tc_16, tc_17, tc_18, tc_19, tc_20, tc_21, tc_22, tc_23, tc_24, tc_25, tc_26, tc_27, tc_28, tc_29, tc_30, tc_31, tc_32, lcl_none, lcl_int, lcl_ref, lcl_null, lcl_long, okR_nil, okR_int, okR_ref, okR_null, okR_long, pushR_some, pushR_none, va_rf_some, va_rf_none, true_and, and_true, true_implies, false_implies, not_true_eq_false, not_false_eq_true, implies_true, bI_eq0, bI_eq1, bI_01, Classical.not_not, or_em, false_and, and_false, mK_tx, hk1, h112', tx_2, c_note (d := 3) (by decide) hT.1]
    exact hQ M p hT FC_r (by omega)
  · intro b M nu g Q hT hM hQ
    exact M_cl hT.1 hlt hs hM.1 (fun _ h => absurd h h112) (fun _ _ => hQ _ (FQ_fl hT.1 FR_r)) (fun h => absurd h (by decide)) (fun h => absurd h (by decide)) (fun h => absurd h (by decide))
theorem st_oth {T : Nat → Int32} {N p n m : Nat} {D : Nat → Nat → Int32} (hlt : p < N) (hs : skP T N p = p) (h1 : T p ≠ 108) (h2 : T p ≠ 115) : StC T N p true n m D := by
  refine Or.inl ⟨if T p = 112 then 3 else 1, nI p, by split <;> decide, ?_, ?_⟩
  · intro b M f Q hT hC hQ
    exact C_cl hT hlt hC.1 (fun h => absurd h (by decide)) (fun _ h => absurd h h1) (fun _ h => absurd h h2) (fun _ _ _ => hQ M p hT FC_r (by omega))
  · intro b M nu g Q hT hM hQ
    exact M_cl hT.1 hlt hs hM.1 (fun h => absurd h (by decide)) (fun h => absurd h (by decide)) (fun _ h => absurd h h1) (fun _ h => absurd h h2) (fun _ _ _ => hQ _ (FQ_fl hT.1 FR_r))
theorem st_life {T : Nat → Int32} {N p n m : Nat} {D : Nat → Nat → Int32} (hlt : p < N) (hs : skP T N p = p) (hv : DV true n m D) (h108 : T p = 108) : StC T N p true n m D := by
  have hn5 := hv.1
  have hnf : ¬ fig (T p) := by rw [h108]; decide
  have hnp := npT_x hlt hs hnf
  by_cases hn : n = 5
  · refine Or.inl ⟨3, nI p, by decide, ?_, ?_⟩
    · intro b M f Q hT hC hQ
      refine C_cl hT hlt hC.1 (fun h => absurd h (by decide)) (fun _ _ => ?_) (fun _ h => absurd (h108.symm.trans h) (by decide)) (fun _ h => absurd h108 h)
      rw [c_life5 hT.1 hn hC.2.1]
      exact ⟨rfl, hQ M p hT FC_r (by omega)⟩
    · intro b M nu g Q hT hM hQ
      refine M_cl hT.1 hlt hs hM.1 (fun h => absurd h (by decide)) (fun h => absurd h (by decide)) (fun _ _ => ?_) (fun _ h => absurd (h108.symm.trans h) (by decide)) (fun _ h => absurd h108 h)
      exact M_lifeI5 hT.1 (by rw [hM.2.1, hn]; rfl) (fun M1 h => ⟨Or.inl rfl, hQ M1 h⟩)
  · have hn4 : n < 5 := by omega
    obtain ⟨p0, e0⟩ : ∃ p0, p0 = p + 1 := ⟨_, rfl⟩
    obtain ⟨p1, e1⟩ : ∃ p1, p1 = npP T N p0 := ⟨_, rfl⟩
    obtain ⟨p2, e2⟩ : ∃ p2, p2 = npP T N p1 := ⟨_, rfl⟩
    have l0 : p0 ≤ N := by omega
    have l1 := npP_le (T := T) l0
    have l2 := npP_le (T := T) (p := p1) (N := N) (by omega)
    have s0 := skP_le (T := T) l0
    have s1 := skP_le (T := T) (p := p1) (N := N) (by omega)
    have l5 := epP_le (T := T) (p := p2) (N := N) (by omega)
    have hCl : ∀ (kd v : Int32), (∀ f, nt (nt (nt 0 (nkP T N p0 100)) (nkP T N p1 50)) (ekP T N p2) = kd ∧ nf (nt (nt 0 (nkP T N p0 100)) (nkP T N p1 50)) (nf (nt 0 (nkP T N p0 100)) (nf 0 f (nkP T N p0 100) (skP T N p0)) (nkP T N p1 50) (skP T N p1)) (ekP T N p2) (skP T N p2) = v) → CsF T N p true n m D kd v := by
      intro kd v hkv b M f Q hT hC hQ
      refine C_cl hT hlt hC.1 (fun h => absurd h (by decide)) (fun _ _ => ?_) (fun _ h => absurd (h108.symm.trans h) (by decide)) (fun _ h => absurd h108 h)
      rw [c_lifeC hT hlt hn4 hC.2.1 e0 e1 e2 rfl rfl rfl rfl, (hkv f).1, (hkv f).2]
      exact ⟨rfl, hQ _ _ (TT_li hT) FC_li l5.2⟩
    by_cases a1 : nkP T N p0 100 = 0
    · by_cases a2 : nkP T N p1 50 = 0
      · by_cases a5 : ekP T N p2 = 0
        · refine Or.inr ⟨epP T N p2, true, n + 1, m, liD D n (nvP T N p0) (nvP T N p1), by omega, l5.2, DV_li hv hn4 (nk_le a1) (nk_le a2), ?_, ?_⟩
          · intro b M f Q hT hC hQ
            refine C_cl hT hlt hC.1 (fun h => absurd h (by decide)) (fun _ _ => ?_) (fun _ h => absurd (h108.symm.trans h) (by decide)) (fun _ h => absurd h108 h)
            rw [c_lifeC hT hlt hn4 hC.2.1 e0 e1 e2 rfl rfl rfl rfl]
            simp only [a1, a2, a5, nt_z, nf_0]
            exact ⟨trivial, hQ _ (TT_li hT) FC_li (CD_li hC hv)⟩
          · intro b M nu g Q hT hM hQ
            refine M_cl hT.1 hlt hs hM.1 (fun h => absurd h (by decide)) (fun h => absurd h (by decide)) (fun _ _ => ?_) (fun _ h => absurd (h108.symm.trans h) (by decide)) (fun _ h => absurd h108 h)
            rw [hnp, ← e0]
            refine M_lifeI hT l0 hn4 hM.2.1 e1 e2 ?_ ?_ ?_ ?_ <;> intros <;> first | contradiction | exact ⟨Or.inr rfl, hQ _ _ _ _ _ (TM_li hT) FR_li (MD_li hM)⟩
        · refine Or.inl ⟨ekP T N p2, nI (skP T N p2), a5, hCl _ _ (fun f => by simp only [a1, a2, nt_z, nf_0, nf_z a5, and_self]), ?_⟩
          intro b M nu g Q hT hM hQ
          refine M_cl hT.1 hlt hs hM.1 (fun h => absurd h (by decide)) (fun h => absurd h (by decide)) (fun _ _ => ?_) (fun _ h => absurd (h108.symm.trans h) (by decide)) (fun _ h => absurd h108 h)
          rw [hnp, ← e0]
          refine M_lifeI hT l0 hn4 hM.2.1 e1 e2 ?_ ?_ ?_ ?_ <;> intros <;> first | contradiction | exact ⟨Or.inl rfl, hQ _ (by assumption)⟩
      · refine Or.inl ⟨nkP T N p1 50, nI (skP T N p1), a2, hCl _ _ (fun f => by simp only [a1, nt_z, nf_0, nf_z a2, nt_n a2, nf_n a2, and_self]), ?_⟩
        intro b M nu g Q hT hM hQ
        refine M_cl hT.1 hlt hs hM.1 (fun h => absurd h (by decide)) (fun h => absurd h (by decide)) (fun _ _ => ?_) (fun _ h => absurd (h108.symm.trans h) (by decide)) (fun _ h => absurd h108 h)
        rw [hnp, ← e0]
        refine M_lifeI hT l0 hn4 hM.2.1 e1 e2 ?_ ?_ ?_ ?_ <;> intros <;> first | contradiction | exact ⟨Or.inl rfl, hQ _ (by assumption)⟩
    · refine Or.inl ⟨nkP T N p0 100, nI (skP T N p0), a1, hCl _ _ (fun f => by simp only [nt_z, nf_z a1, nt_n a1, nf_n a1, and_self]), ?_⟩
      intro b M nu g Q hT hM hQ
      refine M_cl hT.1 hlt hs hM.1 (fun h => absurd h (by decide)) (fun h => absurd h (by decide)) (fun _ _ => ?_) (fun _ h => absurd (h108.symm.trans h) (by decide)) (fun _ h => absurd h108 h)
      rw [hnp, ← e0]
      refine M_lifeI hT l0 hn4 hM.2.1 e1 e2 ?_ ?_ ?_ ?_ <;> intros <;> first | contradiction | exact ⟨Or.inl rfl, hQ _ (by assumption)⟩
theorem kh_l {n l : Nat} {h : Int32} (hl : l < n) : kh n l h = if h = -1 then 0 else 4 := by
  unfold kh
  by_cases e : h = -1
  · rw [if_neg (fun z => z.2 e), if_pos e]
  · rw [if_pos ⟨hl, e⟩, if_neg e]
theorem lt_of_m1 {n l : Nat} (hn : n ≤ 5) (hl : l < 1000) (h : nI l ≤ nI n - 1) : l < n := by
  have h1 : (nI n - 1).toInt = (n : Int) - 1 := pk_sub_toInt (a := n) (b := 1) (by omega) (by omega)
  rw [Int32.le_iff_toInt_le, h1, nI_toInt (by omega)] at h
  omega
theorem st_sub {T : Nat → Int32} {N p n m : Nat} {D : Nat → Nat → Int32} (hlt : p < N) (hs : skP T N p = p) (hv : DV true n m D) (h115 : T p = 115) : StC T N p true n m D := by
  have hn5 := hv.1
  have hm5 := hv.2.1
  have hnf : ¬ fig (T p) := by rw [h115]; decide
  have hnp := npT_x hlt hs hnf
  by_cases hm : m = 5
  · refine Or.inl ⟨3, nI p, by decide, ?_, ?_⟩
    · intro b M f Q hT hC hQ
      refine C_cl hT hlt hC.1 (fun h => absurd h (by decide)) (fun _ h => absurd (h115.symm.trans h) (by decide)) (fun _ _ => ?_) (fun _ _ h => absurd h115 h)
      rw [c_sub5 hT.1 hm hC.2.2.1]
      exact ⟨rfl, hQ M p hT FC_r (by omega)⟩
    · intro b M nu g Q hT hM hQ
      refine M_cl hT.1 hlt hs hM.1 (fun h => absurd h (by decide)) (fun h => absurd h (by decide)) (fun _ h => absurd (h115.symm.trans h) (by decide)) (fun _ _ => ?_) (fun _ _ h => absurd h115 h)
      exact M_person5 hT.1 (by rw [hM.2.2.1, hm]; rfl) (fun M1 h => ⟨Or.inl rfl, hQ M1 h⟩)
  · have hm4 : m < 5 := by omega
    obtain ⟨p0, e0⟩ : ∃ p0, p0 = p + 1 := ⟨_, rfl⟩
    obtain ⟨p1, e1⟩ : ∃ p1, p1 = npP T N p0 := ⟨_, rfl⟩
    obtain ⟨p2, e2⟩ : ∃ p2, p2 = npP T N p1 := ⟨_, rfl⟩
    obtain ⟨p3, e3⟩ : ∃ p3, p3 = npP T N p2 := ⟨_, rfl⟩
    have l0 : p0 ≤ N := by omega
    have l1 := npP_le (T := T) l0
    have l2 := npP_le (T := T) (p := p1) (N := N) (by omega)
    have l3 := npP_le (T := T) (p := p2) (N := N) (by omega)
    have s0 := skP_le (T := T) l0
    have s1 := skP_le (T := T) (p := p1) (N := N) (by omega)
    have s2 := skP_le (T := T) (p := p2) (N := N) (by omega)
    have l5 := epP_le (T := T) (p := p3) (N := N) (by omega)
    have hv1000 := nvP_lt (T := T) (N := N) (p := p2)
    have hCl : ∀ (kd v : Int32), (∀ f, nt (nt (nt (nt (nt 0 (nkP T N p0 999)) (nkP T N p1 50)) (nkP T N p2 (nI n - 1))) (kh n (nvP T N p2) (hoF D m (nvP T N p2)))) (ekP T N p3) = kd ∧ nf (nt (nt (nt (nt 0 (nkP T N p0 999)) (nkP T N p1 50)) (nkP T N p2 (nI n - 1))) (kh n (nvP T N p2) (hoF D m (nvP T N p2)))) (nf (nt (nt (nt 0 (nkP T N p0 999)) (nkP T N p1 50)) (nkP T N p2 (nI n - 1))) (nf (nt (nt 0 (nkP T N p0 999)) (nkP T N p1 50)) (nf (nt 0 (nkP T N p0 999)) (nf 0 f (nkP T N p0 999) (skP T N p0)) (nkP T N p1 50) (skP T N p1)) (nkP T N p2 (nI n - 1)) (skP T N p2)) (kh n (nvP T N p2) (hoF D m (nvP T N p2))) (skP T N p2)) (ekP T N p3) (skP T N p3) = v) → CsF T N p true n m D kd v := by
      intro kd v hkv b M f Q hT hC hQ
      refine C_cl hT hlt hC.1 (fun h => absurd h (by decide)) (fun _ h => absurd (h115.symm.trans h) (by decide)) (fun _ _ => ?_) (fun _ _ h => absurd h115 h)
      rw [c_subC (H := hoF D m) hT hlt hm4 hn5 hC.2.1 hC.2.2.1 (fun l hl => (hC.2.2.2.2.1 l hl).2.2) e0 e1 e2 e3 rfl rfl rfl rfl rfl rfl rfl rfl, (hkv f).1, (hkv f).2]
      refine ⟨rfl, ?_⟩
      by_cases hln : nvP T N p2 < n
      · rw [if_pos hln]
        exact hQ _ _ (TT_su hT) FC_su l5.2
      · rw [if_neg hln]
        exact hQ _ _ hT FC_r l5.2
    have hMf : ∀ (kd v : Int32), (∀ (b : Bool) (M : ab_M) (ta nu g : Nat) (t : Int32) (Q : ab_Q), TM b M T N → MD M true n m D → (∀ M1, FQ b M M1 kd v → Q (some (.int 0)) M1) → EvD 4 131 [.ref 102] (md M p0 ta t nu g) (fun r M1 => (r = some (.int 0) ∨ r = some (.int 1)) ∧ Q r M1)) → MsF T N p true n m D kd v := by
      intro kd v hh b M nu g Q hT hM hQ
      refine M_cl hT.1 hlt hs hM.1 (fun h => absurd h (by decide)) (fun h => absurd h (by decide)) (fun _ h => absurd (h115.symm.trans h) (by decide)) (fun _ _ => ?_) (fun _ _ h => absurd h115 h)
      rw [hnp, ← e0]
      exact hh b M _ _ _ _ Q hT hM hQ
    by_cases a1 : nkP T N p0 999 = 0
    · by_cases a2 : nkP T N p1 50 = 0
      · by_cases a3 : nkP T N p2 (nI n - 1) = 0
        · have hln : nvP T N p2 < n := lt_of_m1 hn5 hv1000 (nk_le a3).2
          have ekh := kh_l (h := hoF D m (nvP T N p2)) hln
          by_cases a4 : hoF D m (nvP T N p2) = -1
          · rw [if_pos a4] at ekh
            by_cases a5 : ekP T N p3 = 0
            · refine Or.inr ⟨epP T N p3, true, n, m + 1, suD D m (nvP T N p0) (nvP T N p1) (nvP T N p2), by omega, l5.2, DV_su hv hm4 hln (nk_le a2), ?_, ?_⟩
              · intro b M f Q hT hC hQ
                refine C_cl hT hlt hC.1 (fun h => absurd h (by decide)) (fun _ h => absurd (h115.symm.trans h) (by decide)) (fun _ _ => ?_) (fun _ _ h => absurd h115 h)
                rw [c_subC (H := hoF D m) hT hlt hm4 hn5 hC.2.1 hC.2.2.1 (fun l hl => (hC.2.2.2.2.1 l hl).2.2) e0 e1 e2 e3 rfl rfl rfl rfl rfl rfl rfl rfl, if_pos hln]
                simp only [a1, a2, a3, ekh, a5, nt_z, nf_0]
                exact ⟨trivial, hQ _ (TT_su hT) FC_su (CD_su hC hv hln)⟩
              · intro b M nu g Q hT hM hQ
                refine M_cl hT.1 hlt hs hM.1 (fun h => absurd h (by decide)) (fun h => absurd h (by decide)) (fun _ h => absurd (h115.symm.trans h) (by decide)) (fun _ _ => ?_) (fun _ _ h => absurd h115 h)
                rw [hnp, ← e0]
                refine M_person (D := D) hT l0 hm4 hM.2.1 hM.2.2.1 (fun j hj => (hM.2.2.2.2.2 j hj).2.2) e1 e2 e3 ?_ ?_ ?_ ?_ ?_ ?_ <;> intros <;> first | contradiction | exact ⟨Or.inr rfl, hQ _ _ _ _ _ (TM_su hT) FR_su (MD_su hM)⟩
            · refine Or.inl ⟨ekP T N p3, nI (skP T N p3), a5, hCl _ _ (fun f => by simp only [a1, a2, a3, ekh, nt_z, nf_0, nf_z a5, and_self]), hMf _ _ (fun b M ta nu g t Q hT hM hQ => ?_)⟩
              refine M_person (D := D) hT l0 hm4 hM.2.1 hM.2.2.1 (fun j hj => (hM.2.2.2.2.2 j hj).2.2) e1 e2 e3 ?_ ?_ ?_ ?_ ?_ ?_ <;> intros <;> first | contradiction | exact ⟨Or.inl rfl, hQ _ (by assumption)⟩
          · rw [if_neg a4] at ekh
            have z4 : (4 : Int32) ≠ 0 := by decide
            refine Or.inl ⟨4, nI (skP T N p2), by decide, hCl _ _ (fun f => by simp only [a1, a2, a3, ekh, nt_z, nf_0, nf_z z4, nt_n z4, nf_n z4, and_self]), hMf _ _ (fun b M ta nu g t Q hT hM hQ => ?_)⟩
            refine M_person (D := D) hT l0 hm4 hM.2.1 hM.2.2.1 (fun j hj => (hM.2.2.2.2.2 j hj).2.2) e1 e2 e3 ?_ ?_ ?_ ?_ ?_ ?_ <;> intros <;> first | contradiction | exact ⟨Or.inl rfl, hQ _ (by assumption)⟩
        · refine Or.inl ⟨nkP T N p2 (nI n - 1), nI (skP T N p2), a3, hCl _ _ (fun f => by simp only [a1, a2, nt_z, nf_0, nf_z a3, nt_n a3, nf_n a3, and_self]), hMf _ _ (fun b M ta nu g t Q hT hM hQ => ?_)⟩
          refine M_person (D := D) hT l0 hm4 hM.2.1 hM.2.2.1 (fun j hj => (hM.2.2.2.2.2 j hj).2.2) e1 e2 e3 ?_ ?_ ?_ ?_ ?_ ?_ <;> intros <;> first | contradiction | exact ⟨Or.inl rfl, hQ _ (by assumption)⟩
      · refine Or.inl ⟨nkP T N p1 50, nI (skP T N p1), a2, hCl _ _ (fun f => by simp only [a1, nt_z, nf_0, nf_z a2, nt_n a2, nf_n a2, and_self]), hMf _ _ (fun b M ta nu g t Q hT hM hQ => ?_)⟩
        refine M_person (D := D) hT l0 hm4 hM.2.1 hM.2.2.1 (fun j hj => (hM.2.2.2.2.2 j hj).2.2) e1 e2 e3 ?_ ?_ ?_ ?_ ?_ ?_ <;> intros <;> first | contradiction | exact ⟨Or.inl rfl, hQ _ (by assumption)⟩
    · refine Or.inl ⟨nkP T N p0 999, nI (skP T N p0), a1, hCl _ _ (fun f => by simp only [nt_z, nf_z a1, nt_n a1, nf_n a1, and_self]), hMf _ _ (fun b M ta nu g t Q hT hM hQ => ?_)⟩
      refine M_person (D := D) hT l0 hm4 hM.2.1 hM.2.2.1 (fun j hj => (hM.2.2.2.2.2 j hj).2.2) e1 e2 e3 ?_ ?_ ?_ ?_ ?_ ?_ <;> intros <;> first | contradiction | exact ⟨Or.inl rfl, hQ _ (by assumption)⟩
theorem st_all {T : Nat → Int32} {N p n m : Nat} {hp : Bool} {D : Nat → Nat → Int32} (hlt : p < N) (hs : skP T N p = p) (hv : DV hp n m D) : StC T N p hp n m D := by
  cases hp with
  | false =>
    by_cases h : T p = 112
    · exact st_pot hlt hs hv h
    · exact st_no hlt hs h
  | true =>
    by_cases h : T p = 108
    · exact st_life hlt hs hv h
    · by_cases h2 : T p = 115
      · exact st_sub hlt hs hv h2
      · exact st_oth hlt hs h h2
