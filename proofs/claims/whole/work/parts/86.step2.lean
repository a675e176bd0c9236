/-! one clause: the cases -/
theorem FC_po {b : Bool} {M : ab_M} {v1 v2 v3 v4 : Nat} : FC b M (poM b M v1 v2 v3 v4) := FC_w (i := 0) (FC_w (i := 0) (FC_w (i := 0) (FC_w (i := 0) (FC_w (i := 0) FC_r (by decide)) (by decide)) (by decide)) (by decide)) (by decide)
theorem TT_po {b : Bool} {M : ab_M} {T : Nat → Int32} {N v1 v2 v3 v4 : Nat} (h : TT b M T N) : TT b (poM b M v1 v2 v3 v4) T N := TT_d0 (TT_d0 (TT_d0 (TT_d0 (TT_d0 h))))
theorem FC_li {b : Bool} {M : ab_M} {n q x : Nat} : FC b M (liM b M n q x) := FC_w (i := 0) (FC_w (FC_w (FC_w FC_r (by decide)) (by decide)) (by decide)) (by decide)
theorem TT_li {b : Bool} {M : ab_M} {T : Nat → Int32} {N n q x : Nat} (h : TT b M T N) : TT b (liM b M n q x) T N := TT_d0 (TT_d (TT_d (TT_d h)))
theorem FC_su {b : Bool} {M : ab_M} {m u x l : Nat} : FC b M (suM b M m u x l) := FC_w (i := 0) (FC_w (FC_w (FC_w FC_r (by decide)) (by decide)) (by decide)) (by decide)
theorem TT_su {b : Bool} {M : ab_M} {T : Nat → Int32} {N m u x l : Nat} (h : TT b M T N) : TT b (suM b M m u x l) T N := TT_d0 (TT_d (TT_d (TT_d h)))
theorem FR_po {M : ab_M} {v1 v2 v3 v4 : Nat} : FR M (poT M v1 v2 v3 v4) := FR_w (FR_w (FR_w (FR_w (FR_w FR_r (by omega)) (by omega)) (by omega)) (by omega)) (by omega)
theorem TM_po {b : Bool} {M : ab_M} {T : Nat → Int32} {N v1 v2 v3 v4 : Nat} (h : TM b M T N) : TM b (poT M v1 v2 v3 v4) T N := TM_w (TM_w (TM_w (TM_w (TM_w h (by omega)) (by omega)) (by omega)) (by omega)) (by omega)
theorem FR_li {M : ab_M} {n q x : Nat} : FR M (liT M n q x) := FR_w (FR_w (FR_w FR_r (by omega)) (by omega)) (by omega)
theorem TM_li {b : Bool} {M : ab_M} {T : Nat → Int32} {N n q x : Nat} (h : TM b M T N) : TM b (liT M n q x) T N := TM_w (TM_w (TM_w h (by omega)) (by omega)) (by omega)
theorem FR_su {M : ab_M} {m u x l : Nat} : FR M (suT M m u x l) := FR_w (FR_w (FR_w (FR_w FR_r (by omega)) (by omega)) (by omega)) (by omega)
theorem TM_su {b : Bool} {M : ab_M} {T : Nat → Int32} {N m u x l : Nat} (h : TM b M T N) : TM b (suT M m u x l) T N := TM_w (TM_w (TM_w (TM_w h (by omega)) (by omega)) (by omega)) (by omega)
theorem DV_po {D : Nat → Nat → Int32} {n m v1 v2 v3 v4 : Nat} (hv : DV false n m D) (h1 : 0 ≤ nI v1 ∧ nI v1 ≤ 999) (h2 : 0 ≤ nI v2 ∧ nI v2 ≤ 10) (h3 : 0 ≤ nI v3 ∧ nI v3 ≤ 99) (h4 : 0 ≤ nI v4 ∧ nI v4 ≤ 99) : DV true n m (poD D v1 v2 v3 v4) := by
  obtain ⟨g1, g2, g3, g4, g5, g6⟩ := hv
  obtain ⟨rfl, rfl, -⟩ := g3 rfl
  refine ⟨by decide, by decide, fun h => absurd h (by decide), ⟨?_, ?_, ?_, ?_⟩, fun k hk => absurd hk (Nat.not_lt_zero k), fun k hk => absurd hk (Nat.not_lt_zero k)⟩
  · simpa [poD] using h1
  · simpa [poD] using h2
  · simpa [poD] using h3
  · simpa [poD] using h4
theorem st_pot {T : Nat → Int32} {N p n m : Nat} {D : Nat → Nat → Int32} (hlt : p < N) (hs : skP T N p = p) (hv : DV false n m D) (h112 : T p = 112) : StC T N p false n m D := by
  have hn0 := hv.2.2.1 rfl
  have hnf : ¬ fig (T p) := by rw [h112]; decide
  have hnp := npT_x hlt hs hnf
  obtain ⟨p0, e0⟩ : ∃ p0, p0 = p + 1 := ⟨_, rfl⟩
  obtain ⟨p1, e1⟩ : ∃ p1, p1 = npP T N p0 := ⟨_, rfl⟩
  obtain ⟨p2, e2⟩ : ∃ p2, p2 = npP T N p1 := ⟨_, rfl⟩
  obtain ⟨p3, e3⟩ : ∃ p3, p3 = npP T N p2 := ⟨_, rfl⟩
  obtain ⟨p4, e4⟩ : ∃ p4, p4 = npP T N p3 := ⟨_, rfl⟩
  have l0 : p0 ≤ N := by omega
  have l1 := npP_le (T := T) l0
  have l2 := npP_le (T := T) (p := p1) (N := N) (by omega)
  have l3 := npP_le (T := T) (p := p2) (N := N) (by omega)
  have l4 := npP_le (T := T) (p := p3) (N := N) (by omega)
  have s0 := skP_le (T := T) l0
  have s1 := skP_le (T := T) (p := p1) (N := N) (by omega)
  have s2 := skP_le (T := T) (p := p2) (N := N) (by omega)
  have s3 := skP_le (T := T) (p := p3) (N := N) (by omega)
  have l5 := epP_le (T := T) (p := p4) (N := N) (by omega)
  have hCl : ∀ (kd v : Int32), (∀ f, nt (nt (nt (nt (nt 0 (nkP T N p0 999)) (nkP T N p1 10)) (nkP T N p2 99)) (nkP T N p3 99)) (ekP T N p4) = kd ∧ nf (nt (nt (nt (nt 0 (nkP T N p0 999)) (nkP T N p1 10)) (nkP T N p2 99)) (nkP T N p3 99)) (nf (nt (nt (nt 0 (nkP T N p0 999)) (nkP T N p1 10)) (nkP T N p2 99)) (nf (nt (nt 0 (nkP T N p0 999)) (nkP T N p1 10)) (nf (nt 0 (nkP T N p0 999)) (nf 0 f (nkP T N p0 999) (skP T N p0)) (nkP T N p1 10) (skP T N p1)) (nkP T N p2 99) (skP T N p2)) (nkP T N p3 99) (skP T N p3)) (ekP T N p4) (skP T N p4) = v) → CsF T N p false n m D kd v := by
    intro kd v hkv b M f Q hT hC hQ
    refine C_cl hT hlt hC.1 (fun _ => ?_) (fun h => absurd h (by decide)) (fun h => absurd h (by decide)) (fun h => absurd h (by decide))
    rw [h112, c_potC hT hlt e0 e1 e2 e3 e4 rfl rfl rfl rfl rfl rfl rfl rfl, (hkv f).1, (hkv f).2]
    exact ⟨rfl, hQ _ _ (TT_po hT) FC_po l5.2⟩
  by_cases a1 : nkP T N p0 999 = 0
  · by_cases a2 : nkP T N p1 10 = 0
    · by_cases a3 : nkP T N p2 99 = 0
      · by_cases a4 : nkP T N p3 99 = 0
        · by_cases a5 : ekP T N p4 = 0
          · refine Or.inr ⟨epP T N p4, true, n, m, poD D (nvP T N p0) (nvP T N p1) (nvP T N p2) (nvP T N p3), by omega, l5.2, DV_po hv (nk_le a1) (nk_le a2) (nk_le a3) (nk_le a4), ?_, ?_⟩
            · intro b M f Q hT hC hQ
              refine C_cl hT hlt hC.1 (fun _ => ?_) (fun h => absurd h (by decide)) (fun h => absurd h (by decide)) (fun h => absurd h (by decide))
              rw [h112, c_potC hT hlt e0 e1 e2 e3 e4 rfl rfl rfl rfl rfl rfl rfl rfl]
              simp only [a1, a2, a3, a4, a5, nt_z, nf_0]
              exact ⟨trivial, hQ _ (TT_po hT) FC_po (CD_po hC ⟨hn0.1, hn0.2.1⟩)⟩
            · intro b M nu g Q hT hM hQ
              refine M_cl hT.1 hlt hs hM.1 (fun _ _ => ?_) (fun _ h => absurd h112 h) (fun h => absurd h (by decide)) (fun h => absurd h (by decide)) (fun h => absurd h (by decide))
              rw [hnp, ← e0]
              refine M_pot hT l0 e1 e2 e3 e4 ?_ ?_ ?_ ?_ ?_ ?_ <;> intros <;> first | contradiction | exact ⟨Or.inr rfl, hQ _ _ _ _ _ (TM_po hT) FR_po (MD_po hM ⟨hn0.1, hn0.2.1⟩)⟩
          · refine Or.inl ⟨ekP T N p4, nI (skP T N p4), a5, hCl _ _ (fun f => by simp only [a1, a2, a3, a4, nt_z, nf_0, nf_z a5, and_self]), ?_⟩
            intro b M nu g Q hT hM hQ
            refine M_cl hT.1 hlt hs hM.1 (fun _ _ => ?_) (fun _ h => absurd h112 h) (fun h => absurd h (by decide)) (fun h => absurd h (by decide)) (fun h => absurd h (by decide))
            rw [hnp, ← e0]
            refine M_pot hT l0 e1 e2 e3 e4 ?_ ?_ ?_ ?_ ?_ ?_ <;> intros <;> first | contradiction | exact ⟨Or.inl rfl, hQ _ (by assumption)⟩
        · refine Or.inl ⟨nkP T N p3 99, nI (skP T N p3), a4, hCl _ _ (fun f => by simp only [a1, a2, a3, nt_z, nf_0, nf_z a4, nt_n a4, nf_n a4, and_self]), ?_⟩
          intro b M nu g Q hT hM hQ
          refine M_cl hT.1 hlt hs hM.1 (fun _ _ => ?_) (fun _ h => absurd h112 h) (fun h => absurd h (by decide)) (fun h => absurd h (by decide)) (fun h => absurd h (by decide))
          rw [hnp, ← e0]
          refine M_pot hT l0 e1 e2 e3 e4 ?_ ?_ ?_ ?_ ?_ ?_ <;> intros <;> first | contradiction | exact ⟨Or.inl rfl, hQ _ (by assumption)⟩
      · refine Or.inl ⟨nkP T N p2 99, nI (skP T N p2), a3, hCl _ _ (fun f => by simp only [a1, a2, nt_z, nf_0, nf_z a3, nt_n a3, nf_n a3, and_self]), ?_⟩
        intro b M nu g Q hT hM hQ
        refine M_cl hT.1 hlt hs hM.1 (fun _ _ => ?_) (fun _ h => absurd h112 h) (fun h => absurd h (by decide)) (fun h => absurd h (by decide)) (fun h => absurd h (by decide))
        rw [hnp, ← e0]
        refine M_pot hT l0 e1 e2 e3 e4 ?_ ?_ ?_ ?_ ?_ ?_ <;> intros <;> first | contradiction | exact ⟨Or.inl rfl, hQ _ (by assumption)⟩
    · refine Or.inl ⟨nkP T N p1 10, nI (skP T N p1), a2, hCl _ _ (fun f => by simp only [a1, nt_z, nf_0, nf_z a2, nt_n a2, nf_n a2, and_self]), ?_⟩
      intro b M nu g Q hT hM hQ
      refine M_cl hT.1 hlt hs hM.1 (fun _ _ => ?_) (fun _ h => absurd h112 h) (fun h => absurd h (by decide)) (fun h => absurd h (by decide)) (fun h => absurd h (by decide))
      rw [hnp, ← e0]
      refine M_pot hT l0 e1 e2 e3 e4 ?_ ?_ ?_ ?_ ?_ ?_ <;> intros <;> first | contradiction | exact ⟨Or.inl rfl, hQ _ (by assumption)⟩
  · refine Or.inl ⟨nkP T N p0 999, nI (skP T N p0), a1, hCl _ _ (fun f => by simp only [nt_z, nf_z a1, nt_n a1, nf_n a1, and_self]), ?_⟩
    intro b M nu g Q hT hM hQ
    refine M_cl hT.1 hlt hs hM.1 (fun _ _ => ?_) (fun _ h => absurd h112 h) (fun h => absurd h (by decide)) (fun h => absurd h (by decide)) (fun h => absurd h (by decide))
    rw [hnp, ← e0]
    refine M_pot hT l0 e1 e2 e3 e4 ?_ ?_ ?_ ?_ ?_ ?_ <;> intros <;> first | contradiction | exact ⟨Or.inl rfl, hQ _ (by assumption)⟩
