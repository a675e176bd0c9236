/-! what was read, on both sides -/
def CD (b : Bool) (M : ab_M) (hp : Bool) (n m : Nat) (D : Nat → Nat → Int32) : Prop := mI M (dl b) 0 = b01 hp ∧ mI M (dl b) 5 = nI n ∧ mI M (dl b) 6 = nI m ∧ (∀ i, i < 4 → mI M (dl b) (1 + i) = D 1 i) ∧ (∀ k, k < n → mI M (dl b + 1) k = D 2 k ∧ mI M (dl b + 2) k = D 3 k ∧ mI M (dl b + 3) k = hoF D m k) ∧ ∀ j, j < m → mI M (dl b + 4) j = D 4 j ∧ mI M (dl b + 5) j = D 5 j
def MD (M : ab_M) (hp : Bool) (n m : Nat) (D : Nat → Nat → Int32) : Prop := mI M 102 9 = b01 hp ∧ mI M 102 10 = nI n ∧ mI M 102 11 = nI m ∧ (hp = true → ∀ i, i < 4 → mI M 104 i = D 1 i) ∧ (∀ k, k < n → mI M 105 (2 * k) = D 2 k ∧ mI M 105 (2 * k + 1) = D 3 k) ∧ ∀ j, j < m → mI M 106 (3 * j) = D 4 j ∧ mI M 106 (3 * j + 1) = D 5 j ∧ mI M 106 (3 * j + 2) = D 6 j
def DV (hp : Bool) (n m : Nat) (D : Nat → Nat → Int32) : Prop := n ≤ 5 ∧ m ≤ 5 ∧ (hp = false → n = 0 ∧ m = 0 ∧ ∀ i, i < 4 → D 1 i = 0) ∧ ((0 ≤ D 1 0 ∧ D 1 0 ≤ 999) ∧ (0 ≤ D 1 1 ∧ D 1 1 ≤ 10) ∧ (0 ≤ D 1 2 ∧ D 1 2 ≤ 99) ∧ (0 ≤ D 1 3 ∧ D 1 3 ≤ 99)) ∧ (∀ k, k < n → (0 ≤ D 2 k ∧ D 2 k ≤ 100) ∧ (0 ≤ D 3 k ∧ D 3 k ≤ 50)) ∧ ∀ j, j < m → (0 ≤ D 5 j ∧ D 5 j ≤ 50) ∧ ∃ l, l < n ∧ D 6 j = nI l
def FC (b : Bool) (M0 M : ab_M) : Prop := ∀ a, a < dl b ∨ dl b + 5 < a → mI M a = mI M0 a
theorem FC_w {b : Bool} {M0 M : ab_M} {i j : Nat} {v : Int32} (h : FC b M0 M) (hi : i ≤ 5) : FC b M0 (wI M (dl b + i) j v) := fun a ha => by rw [mI_wI_ne (by omega)]; exact h a ha
theorem FC_r {b : Bool} {M : ab_M} : FC b M M := fun _ _ => rfl
theorem FC_t {b : Bool} {M0 M M1 : ab_M} (h : FC b M0 M) (h1 : FC b M M1) : FC b M0 M1 := fun a ha => (h1 a ha).trans (h a ha)
theorem nk_le {T : Nat → Int32} {N p : Nat} {most : Int32} (h : nkP T N p most = 0) : 0 ≤ nI (nvP T N p) ∧ nI (nvP T N p) ≤ most := by
  refine ⟨nI_pos' (by have := nvP_lt (T := T) (N := N) (p := p); omega), ?_⟩
  unfold nkP at h
  by_cases h1 : ngP T N p = 0
  · rw [if_pos h1] at h; exact absurd h (by decide)
  · rw [if_neg h1] at h
    by_cases h2 : 3 < ngP T N p ∨ most < nI (nvP T N p)
    · rw [if_pos h2] at h; exact absurd h (by decide)
    · exact Int32.not_lt.mp (fun z => h2 (Or.inr z))
def poD (D : Nat → Nat → Int32) (v1 v2 v3 v4 : Nat) : Nat → Nat → Int32 := fun r i => if r = 1 then (if i = 0 then nI v1 else if i = 1 then nI v2 else if i = 2 then nI v3 else nI v4) else D r i
def liD (D : Nat → Nat → Int32) (n q x : Nat) : Nat → Nat → Int32 := fun r i => if r = 2 ∧ i = n then nI q else if r = 3 ∧ i = n then nI x else D r i
def suD (D : Nat → Nat → Int32) (m u x l : Nat) : Nat → Nat → Int32 := fun r i => if r = 4 ∧ i = m then nI u else if r = 5 ∧ i = m then nI x else if r = 6 ∧ i = m then nI l else D r i
theorem hoF_c {D D1 : Nat → Nat → Int32} {l : Nat} : ∀ m, (∀ j, j < m → D 6 j = D1 6 j) → hoF D m l = hoF D1 m l := by
  intro m
  induction m with
  | zero => intro _; rfl
  | succ m ih => intro h; unfold hoF; rw [ih (fun j hj => h j (by omega)), h m (by omega)]
theorem CD_po {b : Bool} {M : ab_M} {D : Nat → Nat → Int32} {n m v1 v2 v3 v4 : Nat} (h : CD b M false n m D) (h0 : n = 0 ∧ m = 0) : CD b (poM b M v1 v2 v3 v4) true n m (poD D v1 v2 v3 v4) := by
  obtain ⟨rfl, rfl⟩ := h0
  obtain ⟨h1, h2, h3, h4, h5, h6⟩ := h
  unfold poM
  refine ⟨by simp [mI_wI, b01], by simp [mI_wI]; exact h2, by simp [mI_wI]; exact h3, fun i hi => ?_, fun k hk => absurd hk (Nat.not_lt_zero k), fun k hk => absurd hk (Nat.not_lt_zero k)⟩
  have : i = 0 ∨ i = 1 ∨ i = 2 ∨ i = 3 := by omega
  rcases this with rfl | rfl | rfl | rfl <;> simp [mI_wI, poD]
theorem MD_po {M : ab_M} {D : Nat → Nat → Int32} {n m v1 v2 v3 v4 : Nat} (h : MD M false n m D) (h0 : n = 0 ∧ m = 0) : MD (poT M v1 v2 v3 v4) true n m (poD D v1 v2 v3 v4) := by
  obtain ⟨rfl, rfl⟩ := h0
  obtain ⟨h1, h2, h3, h4, h5, h6⟩ := h
  unfold poT
  refine ⟨by simp [mI_wI, b01], by simp [mI_wI]; exact h2, by simp [mI_wI]; exact h3, fun _ i hi => ?_, fun k hk => absurd hk (Nat.not_lt_zero k), fun k hk => absurd hk (Nat.not_lt_zero k)⟩
  have : i = 0 ∨ i = 1 ∨ i = 2 ∨ i = 3 := by omega
  rcases this with rfl | rfl | rfl | rfl <;> simp [mI_wI, poD]
theorem CD_li {b : Bool} {M : ab_M} {D : Nat → Nat → Int32} {hp : Bool} {n m q x : Nat} (h : CD b M hp n m D) (hv : DV hp n m D) : CD b (liM b M n q x) hp (n + 1) m (liD D n q x) := by
  obtain ⟨h1, h2, h3, h4, h5, h6⟩ := h
  have hn := hv.1
  have hm := hv.2.1
  have hho : ∀ k, hoF (liD D n q x) m k = hoF D m k := fun k => hoF_c m (fun j _ => by simp [liD])
  unfold liM
  refine ⟨?_, ?_, ?_, fun i hi => ?_, fun k hk => ?_, fun j hj => ?_⟩
  · rw [mI_wI, if_neg (by omega), mI_wI_ne (by omega), mI_wI_ne (by omega), mI_wI_ne (by omega)]; exact h1
  · rw [mI_wI, if_pos ⟨rfl, rfl⟩]
  · rw [mI_wI, if_neg (by omega), mI_wI_ne (by omega), mI_wI_ne (by omega), mI_wI_ne (by omega)]; exact h3
  · rw [mI_wI, if_neg (by omega), mI_wI_ne (by omega), mI_wI_ne (by omega), mI_wI_ne (by omega), h4 i hi]
    simp [liD]
  · rw [hho]
    by_cases e : k = n
    · subst e
      refine ⟨?_, ?_, ?_⟩
      · rw [mI_wI_ne (by omega), mI_wI_ne (by omega), mI_wI_ne (by omega), mI_wI, if_pos ⟨rfl, rfl⟩]
        simp [liD]
      · rw [mI_wI_ne (by omega), mI_wI_ne (by omega), mI_wI, if_pos ⟨rfl, rfl⟩]
        simp [liD]
      · rw [mI_wI_ne (by omega), mI_wI, if_pos ⟨rfl, rfl⟩]
        refine ((hoF_m1 m (by omega)).mpr (fun j hj => ?_)).symm
        obtain ⟨l, hl, el⟩ := (hv.2.2.2.2.2 j hj).2
        rw [el]
        exact fun z => by have := (nI_eq (by omega) (by omega)).mp z; omega
    · obtain ⟨a1, a2, a3⟩ := h5 k (by omega)
      refine ⟨?_, ?_, ?_⟩
      · rw [mI_wI_ne (by omega), mI_wI_ne (by omega), mI_wI_ne (by omega), mI_wI, if_neg (fun z => e z.2), a1]
        simp [liD, e]
      · rw [mI_wI_ne (by omega), mI_wI_ne (by omega), mI_wI, if_neg (fun z => e z.2), mI_wI_ne (by omega), a2]
        simp [liD, e]
      · rw [mI_wI_ne (by omega), mI_wI, if_neg (fun z => e z.2), mI_wI_ne (by omega), mI_wI_ne (by omega), a3]
  · obtain ⟨a1, a2⟩ := h6 j hj
    refine ⟨?_, ?_⟩
    · rw [mI_wI_ne (by omega), mI_wI_ne (by omega), mI_wI_ne (by omega), mI_wI_ne (by omega), a1]
      simp [liD]
    · rw [mI_wI_ne (by omega), mI_wI_ne (by omega), mI_wI_ne (by omega), mI_wI_ne (by omega), a2]
      simp [liD]
theorem MD_li {M : ab_M} {D : Nat → Nat → Int32} {hp : Bool} {n m q x : Nat} (h : MD M hp n m D) : MD (liT M n q x) hp (n + 1) m (liD D n q x) := by
  obtain ⟨h1, h2, h3, h4, h5, h6⟩ := h
  unfold liT
  refine ⟨?_, ?_, ?_, fun hh i hi => ?_, fun k hk => ?_, fun j hj => ?_⟩
  · rw [mI_wI, if_neg (by omega), mI_wI_ne (by omega), mI_wI_ne (by omega)]; exact h1
  · rw [mI_wI, if_pos ⟨rfl, rfl⟩]
  · rw [mI_wI, if_neg (by omega), mI_wI_ne (by omega), mI_wI_ne (by omega)]; exact h3
  · rw [mI_wI_ne (by omega), mI_wI_ne (by omega), mI_wI_ne (by omega), h4 hh i hi]
    simp [liD]
  · by_cases e : k = n
    · subst e
      refine ⟨?_, ?_⟩
      · rw [mI_wI_ne (by omega), mI_wI, if_neg (by omega), mI_wI, if_pos ⟨rfl, rfl⟩]
        simp [liD]
      · rw [mI_wI_ne (by omega), mI_wI, if_pos ⟨rfl, rfl⟩]
        simp [liD]
    · obtain ⟨a1, a2⟩ := h5 k (by omega)
      refine ⟨?_, ?_⟩
      · rw [mI_wI_ne (by omega), mI_wI, if_neg (by omega), mI_wI, if_neg (by omega), a1]
        simp [liD, e]
      · rw [mI_wI_ne (by omega), mI_wI, if_neg (by omega), mI_wI, if_neg (by omega), a2]
        simp [liD, e]
  · obtain ⟨a1, a2, a3⟩ := h6 j hj
    refine ⟨?_, ?_, ?_⟩
    · rw [mI_wI_ne (by omega), mI_wI_ne (by omega), mI_wI_ne (by omega), a1]; simp [liD]
    · rw [mI_wI_ne (by omega), mI_wI_ne (by omega), mI_wI_ne (by omega), a2]; simp [liD]
    · rw [mI_wI_ne (by omega), mI_wI_ne (by omega), mI_wI_ne (by omega), a3]; simp [liD]
theorem DV_li {D : Nat → Nat → Int32} {n m q x : Nat} (hv : DV true n m D) (hn : n < 5) (h1 : 0 ≤ nI q ∧ nI q ≤ 100) (h2 : 0 ≤ nI x ∧ nI x ≤ 50) : DV true (n + 1) m (liD D n q x) := by
  obtain ⟨g1, g2, g3, g4, g5, g6⟩ := hv
  refine ⟨by omega, g2, fun h => absurd h (by decide), by simpa [liD] using g4, fun k hk => ?_, fun j hj => ?_⟩
  · by_cases e : k = n
    · subst e
      simp only [liD, true_and, and_true, if_true, show ((3 : Nat) = 2) = False from eq_false (by decide), false_and, if_false]
      exact ⟨h1, h2⟩
    · simpa [liD, e] using g5 k (by omega)
  · obtain ⟨a1, l, hl, a2⟩ := g6 j hj
    exact ⟨by simpa [liD] using a1, l, by omega, by simpa [liD] using a2⟩
theorem CD_su {b : Bool} {M : ab_M} {D : Nat → Nat → Int32} {hp : Bool} {n m u x l : Nat} (h : CD b M hp n m D) (hv : DV hp n m D) (hl : l < n) : CD b (suM b M m u x l) hp n (m + 1) (suD D m u x l) := by
  obtain ⟨h1, h2, h3, h4, h5, h6⟩ := h
  have hn := hv.1
  have hm := hv.2.1
  have h6j : ∀ j, j < m → suD D m u x l 6 j = D 6 j := fun j hj => by
    have hne : j ≠ m := by omega
    simp [suD, hne]
  have hho : ∀ k, hoF (suD D m u x l) m k = hoF D m k := fun k => hoF_c m h6j
  unfold suM
  refine ⟨?_, ?_, ?_, fun i hi => ?_, fun k hk => ?_, fun j hj => ?_⟩
  · rw [mI_wI, if_neg (by omega), mI_wI_ne (by omega), mI_wI_ne (by omega), mI_wI_ne (by omega)]; exact h1
  · rw [mI_wI, if_neg (by omega), mI_wI_ne (by omega), mI_wI_ne (by omega), mI_wI_ne (by omega)]; exact h2
  · rw [mI_wI, if_pos ⟨rfl, rfl⟩]
  · rw [mI_wI, if_neg (by omega), mI_wI_ne (by omega), mI_wI_ne (by omega), mI_wI_ne (by omega), h4 i hi]
    simp [suD]
  · obtain ⟨a1, a2, a3⟩ := h5 k hk
    have eh : hoF (suD D m u x l) (m + 1) k = if l = k then nI m else hoF D m k := by
      show (if suD D m u x l 6 m = nI k then nI m else hoF (suD D m u x l) m k) = _
      rw [hho]
      have : suD D m u x l 6 m = nI l := by simp [suD]
      rw [this]
      by_cases e : l = k
      · rw [if_pos e, if_pos (by rw [e])]
      · rw [if_neg e, if_neg (fun z => e ((nI_eq (by omega) (by omega)).mp z))]
    rw [eh]
    refine ⟨?_, ?_, ?_⟩
    · rw [mI_wI_ne (by omega), mI_wI_ne (by omega), mI_wI_ne (by omega), mI_wI_ne (by omega), a1]; simp [suD]
    · rw [mI_wI_ne (by omega), mI_wI_ne (by omega), mI_wI_ne (by omega), mI_wI_ne (by omega), a2]; simp [suD]
    · rw [mI_wI_ne (by omega), mI_wI]
      by_cases e : l = k
      · rw [if_pos ⟨rfl, e.symm⟩, if_pos e]
      · rw [if_neg (fun z => e z.2.symm), if_neg e, mI_wI_ne (by omega), mI_wI_ne (by omega), a3]
  · by_cases e : j = m
    · subst e
      refine ⟨?_, ?_⟩
      · rw [mI_wI_ne (by omega), mI_wI_ne (by omega), mI_wI_ne (by omega), mI_wI, if_pos ⟨rfl, rfl⟩]; simp [suD]
      · rw [mI_wI_ne (by omega), mI_wI_ne (by omega), mI_wI, if_pos ⟨rfl, rfl⟩]; simp [suD]
    · obtain ⟨a1, a2⟩ := h6 j (by omega)
      refine ⟨?_, ?_⟩
      · rw [mI_wI_ne (by omega), mI_wI_ne (by omega), mI_wI_ne (by omega), mI_wI, if_neg (fun z => e z.2), a1]; simp [suD, e]
      · rw [mI_wI_ne (by omega), mI_wI_ne (by omega), mI_wI, if_neg (fun z => e z.2), mI_wI_ne (by omega), a2]; simp [suD, e]
theorem MD_su {M : ab_M} {D : Nat → Nat → Int32} {hp : Bool} {n m u x l : Nat} (h : MD M hp n m D) : MD (suT M m u x l) hp n (m + 1) (suD D m u x l) := by
  obtain ⟨h1, h2, h3, h4, h5, h6⟩ := h
  unfold suT
  refine ⟨?_, ?_, ?_, fun hh i hi => ?_, fun k hk => ?_, fun j hj => ?_⟩
  · rw [mI_wI, if_neg (by omega), mI_wI_ne (by omega), mI_wI_ne (by omega), mI_wI_ne (by omega)]; exact h1
  · rw [mI_wI, if_neg (by omega), mI_wI_ne (by omega), mI_wI_ne (by omega), mI_wI_ne (by omega)]; exact h2
  · rw [mI_wI, if_pos ⟨rfl, rfl⟩]
  · rw [mI_wI_ne (by omega), mI_wI_ne (by omega), mI_wI_ne (by omega), mI_wI_ne (by omega), h4 hh i hi]; simp [suD]
  · obtain ⟨a1, a2⟩ := h5 k hk
    refine ⟨?_, ?_⟩
    · rw [mI_wI_ne (by omega), mI_wI_ne (by omega), mI_wI_ne (by omega), mI_wI_ne (by omega), a1]; simp [suD]
    · rw [mI_wI_ne (by omega), mI_wI_ne (by omega), mI_wI_ne (by omega), mI_wI_ne (by omega), a2]; simp [suD]
  · by_cases e : j = m
    · subst e
      refine ⟨?_, ?_, ?_⟩
      · rw [mI_wI_ne (by omega), mI_wI, if_neg (by omega), mI_wI, if_neg (by omega), mI_wI, if_pos ⟨rfl, rfl⟩]; simp [suD]
      · rw [mI_wI_ne (by omega), mI_wI, if_neg (by omega), mI_wI, if_pos ⟨rfl, rfl⟩]; simp [suD]
      · rw [mI_wI_ne (by omega), mI_wI, if_pos ⟨rfl, rfl⟩]; simp [suD]
    · obtain ⟨a1, a2, a3⟩ := h6 j (by omega)
      refine ⟨?_, ?_, ?_⟩
      · rw [mI_wI_ne (by omega), mI_wI, if_neg (by omega), mI_wI, if_neg (by omega), mI_wI, if_neg (by omega), a1]; simp [suD, e]
      · rw [mI_wI_ne (by omega), mI_wI, if_neg (by omega), mI_wI, if_neg (by omega), mI_wI, if_neg (by omega), a2]; simp [suD, e]
      · rw [mI_wI_ne (by omega), mI_wI, if_neg (by omega), mI_wI, if_neg (by omega), mI_wI, if_neg (by omega), a3]; simp [suD, e]
theorem DV_su {D : Nat → Nat → Int32} {n m u x l : Nat} (hv : DV true n m D) (hm : m < 5) (hl : l < n) (h2 : 0 ≤ nI x ∧ nI x ≤ 50) : DV true n (m + 1) (suD D m u x l) := by
  obtain ⟨g1, g2, g3, g4, g5, g6⟩ := hv
  refine ⟨g1, by omega, fun h => absurd h (by decide), by simpa [suD] using g4, fun k hk => by simpa [suD] using g5 k hk, fun j hj => ?_⟩
  by_cases e : j = m
  · subst e
    refine ⟨?_, l, hl, by simp [suD]⟩
    have e5 : suD D j u x l 5 j = nI x := by simp [suD]
    rw [e5]
    exact h2
  · obtain ⟨a1, l', hl', a2⟩ := g6 j (by omega)
    exact ⟨by simpa [suD, e] using a1, l', hl', by simpa [suD, e] using a2⟩
