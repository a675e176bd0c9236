/-! THE RELATION HOLDS BEHIND THE CONSTRUCTORS -/
def sig0 : Sg := fun a k => if a = 5 ∧ 5 ≤ k ∧ k < 10 then -1 else if a = 0 ∧ k = 3 then -1 else 0
set_option maxRecDepth 100000 in
theorem ini_RC0 : RC0 false iniM2 sig0 := by
  unfold RC0
  decide +kernel
theorem sig0_no : ∀ i, i < 20 → ¬ (nI i < sig0 0 6) := by decide +kernel
theorem sig0_n0 : ∀ i, i < 5 → ¬ (nI i < sig0 0 0) := by decide +kernel
theorem sig0_n1 : ∀ i, i < 5 → ¬ (nI i < sig0 0 1) := by decide +kernel
theorem ini_RC2 : RC2 false iniM2 sig0 := ⟨fun k hk hn => absurd hn (sig0_n0 k hk), fun k hk hn => absurd hn (sig0_n1 k hk)⟩
set_option maxRecDepth 100000 in
theorem ini_SN : SN iniM2 15 (sig0 5) := by
  unfold SN
  decide +kernel
set_option maxRecDepth 100000 in
theorem ini_RCt : RCt iniM2 sig0 := by
  unfold RCt
  decide +kernel
set_option maxRecDepth 100000 in
theorem ini_RCb : RCb iniM2 sig0 := by
  unfold RCb
  decide +kernel
set_option maxRecDepth 100000 in
theorem ini_RCi : RCi iniM2 sig0 := by
  unfold RCi SN
  decide +kernel
set_option maxRecDepth 100000 in
theorem ini_o : mI iniM2 18 1 = nI 0 := by decide +kernel
theorem ini_RCp : RCp iniM2 sig0 := ⟨0, by decide, ini_o, fun i hi hn => absurd hn (sig0_no i hi)⟩
set_option maxRecDepth 100000 in
theorem ini_RM0 : RM0 iniM2 sig0 := by
  unfold RM0
  decide +kernel
theorem ini_RM2 : RM2 iniM2 sig0 := ⟨fun k hk hn => absurd hn (sig0_n0 k hk), fun k hk hn => absurd hn (sig0_n1 k hk)⟩
set_option maxRecDepth 100000 in
theorem ini_RMn : RMn iniM2 sig0 := by
  unfold RMn
  decide +kernel
set_option maxRecDepth 100000 in
theorem ini_RMt : RMt iniM2 sig0 := by
  unfold RMt
  decide +kernel
set_option maxRecDepth 100000 in
theorem ini_RMb : RMb iniM2 sig0 := by
  unfold RMb
  decide +kernel
set_option maxRecDepth 100000 in
theorem ini_RMi : RMi iniM2 sig0 := by
  unfold RMi
  decide +kernel
theorem ini_RMp : RMp iniM2 sig0 := fun i hi hn => absurd hn (sig0_no i hi)
theorem sig0_SI : SI 0 0 (sig0 5) := ⟨by decide +kernel, by decide +kernel, fun k hk => Or.inl ((by decide +kernel : ∀ k, k < 5 → sig0 5 (5 + k) = -1) k hk), 0, by decide, by decide +kernel⟩
theorem sig0_IV : IV 0 0 sig0 := by
  refine ⟨⟨by decide, by decide, by decide +kernel, by decide +kernel, Or.inl (by decide +kernel), by decide +kernel⟩, ⟨0, by decide, by decide +kernel⟩, ⟨0, by decide, by decide +kernel⟩, ⟨0, by decide, by decide +kernel, fun i hi => absurd hi (Nat.not_lt_zero i)⟩, ⟨⟨by decide +kernel, by decide +kernel⟩, ⟨by decide +kernel, by decide +kernel⟩, ⟨by decide +kernel, by decide +kernel⟩, ⟨by decide +kernel, by decide +kernel⟩⟩, fun k hk => absurd hk (Nat.not_lt_zero k), fun k hk => absurd hk (Nat.not_lt_zero k), sig0_SI, fun i hi hn => absurd hn (sig0_no i hi), fun i hi => ?_⟩
  have h : ∀ i, i < 2 → sig0 12 i = 0 := by decide +kernel
  refine ⟨Or.inl (h i hi), fun e => ?_⟩
  rw [h i hi] at e
  exact absurd e (by decide)
theorem Rel_norm {M : ab_M} {σ : Sg} {L P : Nat} (h1 : RC false M σ) (h2 : RM M σ) (h3 : IV L P σ) : Rel (mNorm M) := ⟨false, σ, L, P, ⟨rfl, rfl, rfl, rfl, rfl⟩, h1.kp (fun a _ => rfl), h2.kp (fun a _ => rfl), h3⟩
theorem ini_Rel : Rel (mNorm iniM2) := Rel_norm (σ := sig0) (L := 0) (P := 0) ⟨ini_RC0, ini_RC2, ini_SN, ini_RCt, ini_RCb, ini_RCi, ini_RCp⟩ ⟨ini_RM0, ini_RM2, ini_RMn, ini_RMt, ini_RMb, ini_RMi, ini_RMp⟩ sig0_IV
theorem ini_all : lwInit Rel := ⟨5000, none, iniM1, iniX_eq, rfl, iniX_z.1, iniX_z.2, 5000, none, iniM2, iniY_eq, rfl, ⟨iniY_z.1, iniY_z.2, fun a ha => ⟨ini_k a ha, ini_n a ha, ini_r a ha⟩⟩, ini_Rel⟩
