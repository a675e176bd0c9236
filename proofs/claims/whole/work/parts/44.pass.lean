/-! a year passes: on small steps -/
def paP (S : Nat → Int32) (p : Nat → Int32) (i : Nat) : Nat → Int32 := fun k => if k < i then capI (S k + p k) else S k
theorem paP_0 {S p : Nat → Int32} : paP S p 0 = S := by
  funext k
  unfold paP
  rw [if_neg (by omega)]
theorem paP_s {S p : Nat → Int32} {i : Nat} : paP S p (i + 1) = upS (paP S p i) i (capI (paP S p i i + p i)) := by
  funext k
  unfold upS paP
  by_cases h : k = i
  · rw [if_pos (by omega), if_pos h, if_neg (by omega), h]
  · rw [if_neg h]
    by_cases h2 : k < i
    · rw [if_pos (by omega), if_pos h2]
    · rw [if_neg (by omega), if_neg h2]
theorem paP_ge {S p : Nat → Int32} {i k : Nat} (h : i ≤ k) : paP S p i k = S k := by
  unfold paP
  rw [if_neg (by omega)]
theorem SI_paP {L P : Nat} {S p : Nat → Int32} (h : SI L P S) (hP : P ≤ 5) : ∀ i, i ≤ P → SI L P (paP S p i) := by
  intro i
  induction i with
  | zero => intro _; rw [paP_0]; exact h
  | succ i ih => intro hi; rw [paP_s]; exact SI_pur (ih (by omega)) hP (by omega)
theorem IV_uS {L P : Nat} {σ : Sg} {S : Nat → Int32} (h : IV L P σ) (hS : SI L P S) : IV L P (uS σ S) := by
  obtain ⟨⟨a1, a2, a3, a4, a5, a6⟩, b5, b6, b7, t, q, x, nw, p, im⟩ := h
  have e : ∀ j, j ≠ 5 → uS σ S j = σ j := fun j h1 => uS_ne h1
  refine ⟨⟨a1, a2, by rw [e 0 (by decide)]; exact a3, by rw [e 0 (by decide)]; exact a4, by rw [e 0 (by decide)]; exact a5, by rw [e 0 (by decide)]; exact a6⟩, by rw [e 0 (by decide)]; exact b5, by rw [e 0 (by decide)]; exact b6, by rw [e 0 (by decide), e 7 (by decide)]; exact b7, by rw [e 1 (by decide)]; exact t, by rw [e 2 (by decide), e 3 (by decide)]; exact q, by rw [e 4 (by decide)]; exact x, by rw [uS_5]; exact hS, fun i hi hin => ?_, fun i hi => ?_⟩
  · rw [e 0 (by decide)] at hin
    rw [e _ (by omega)]
    exact p i hi hin
  · rw [e 12 (by decide), e 9 (by decide), e (10 + i) (by omega)]
    exact im i hi
