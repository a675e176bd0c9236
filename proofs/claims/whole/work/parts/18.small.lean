/-! small words -/
def bI (p : Prop) [Decidable p] : Int32 := if p then 1 else 0
theorem bI_eq0 {p : Prop} [Decidable p] : (bI p = 0) = ¬ p := by
  unfold bI
  by_cases h : p <;> simp [h]
theorem bI_eq1 {p : Prop} [Decidable p] : (bI p = 1) = p := by
  unfold bI
  by_cases h : p <;> simp [h]
theorem bI_01 {p : Prop} [Decidable p] : (bI p = 0 ∨ bI p = 1) = True := by
  unfold bI
  by_cases h : p <;> simp [h]
theorem or_em {p : Prop} : (¬ p ∨ p) = True := by
  by_cases h : p <;> simp [h]
theorem bI_congr {p q : Prop} [Decidable p] [Decidable q] (h : p ↔ q) : bI p = bI q := by
  unfold bI
  by_cases hp : p
  · rw [if_pos hp, if_pos (h.mp hp)]
  · rw [if_neg hp, if_neg (fun e => hp (h.mpr e))]
def hasB (set k : Int32) : Bool := set >>> (k &&& 31) &&& 1 == 1
theorem hasB_iff {set k : Int32} : (set >>> (k &&& 31) &&& 1 = 1) = (hasB set k = true) := by
  unfold hasB
  simp
/-! numbers -/
theorem nI_ltE {a b : Nat} (ha : a < 2 ^ 31) (hb : b < 2 ^ 31) : (nI a < nI b) = (a < b) := propext (nI_ltI ha hb)
theorem nI_leE {a b : Nat} (ha : a < 2 ^ 31) (hb : b < 2 ^ 31) : (nI a ≤ nI b) = (a ≤ b) := propext (nI_leI ha hb)
theorem nI_eqE {a b : Nat} (ha : a < 2 ^ 31) (hb : b < 2 ^ 31) : (nI a = nI b) = (a = b) := propext (nI_eq ha hb)
theorem inX_nI {n N : Nat} (hN : N < 2 ^ 31) (h : n < N) : inX (nI n) N := vp_in_nI h hN
theorem of_ix {s : Int32} {P : Nat} (hP : P < 2 ^ 31) (h : 0 ≤ s ∧ s < nI P) : ∃ j, j < P ∧ s = nI j := by
  obtain ⟨h1, h2⟩ := h
  obtain ⟨j, hj, e⟩ := nI_of (x := s) (Int32.not_lt.mpr h1)
  subst e
  rw [nI_ltE hj hP] at h2
  exact ⟨j, h2, rfl⟩
theorem ix_nI {j P : Nat} (hP : P < 2 ^ 31) (h : j < P) : 0 ≤ nI j ∧ nI j < nI P := ⟨nI_pos' (by omega), by rw [nI_ltE (by omega) hP]; exact h⟩
theorem ix_pred {s : Int32} {P : Nat} (hP : P ≤ 5) : (0 ≤ s ∧ s ≤ nI P - 1) = (0 ≤ s ∧ s < nI P) := by
  apply propext
  have h1 : (nI P - 1).toInt = (P : Int) - 1 := pk_sub_toInt (a := P) (b := 1) (by omega) (by omega)
  rw [Int32.le_iff_toInt_le, Int32.le_iff_toInt_le, Int32.lt_iff_toInt_lt, h1, nI_toInt (by omega : P < 2 ^ 31)]
  omega
