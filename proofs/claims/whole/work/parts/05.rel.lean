/-! WHAT A STATE OF THE ABSTRACT MACHINE IS IN THE HEAP: the cell of label a lies at base + a -/
def cv (base : Nat) (v : Value) : Value := match v with
  | .ref a => .ref (base + a)
  | v => v
theorem cv_cat (base : Nat) (v : Value) : (cv base v).category = v.category := by cases v <;> rfl
theorem cv_rf (base : Nat) (o : Option Nat) : cv base (va_rf o) = va_rf (o.map (base + ·)) := by cases o <;> rfl
def ab_cell (D : va_G) (dA : Nat → ClassId) (base : Nat) (M : ab_M) (H : Heap) (a : Nat) : Prop :=
  if mK M a < 12 then t_OB (base + a) (D.1 (mK M a)) (ab_nF (mK M a)) (D.2 (mK M a)) H (fun k => cv base (fvl M a k (ab_ft (mK M a) k)))
  else if mK M a = 21 then H[base + a]? = some (vp_cell (dA 21) (mN M a, .inr (.inl (mJ M a))))
  else if mK M a = 23 then H[base + a]? = some (vp_cell (dA 23) (mN M a, .inr (.inr (.inr (.inr fun j => (mR M a j).map (base + ·))))))
  else H[base + a]? = some (vp_cell (dA (mK M a)) (mN M a, .inl (mI M a)))
def ab_Wd (D : va_G) (dA : Nat → ClassId) (base : Nat) (M : ab_M) (H : Heap) : Prop := H.size = base + mZ M ∧ (∀ a, a < mZ M → ab_cell D dA base M H a) ∧ ∀ a, mZ M ≤ a → mK M a = 99
theorem ab_Wd.lt {D : va_G} {dA : Nat → ClassId} {base : Nat} {M : ab_M} {H : Heap} (h : ab_Wd D dA base M H) {a k : Nat} (hk : mK M a = k) (h9 : k ≠ 99) : a < mZ M := by
  rcases Nat.lt_or_ge a (mZ M) with q | q
  · exact q
  · exact absurd (hk.symm.trans (h.2.2 a q)) h9
theorem ab_cell_kept {D : va_G} {dA : Nat → ClassId} {base : Nat} {M M1 : ab_M} {H H1 : Heap} {b : Nat} (h1 : mI M1 b = mI M b) (h2 : mJ M1 b = mJ M b) (h3 : mK M1 b = mK M b) (h4 : mN M1 b = mN M b) (h5 : mR M1 b = mR M b) (hq : H1[base + b]? = H[base + b]?) (h : ab_cell D dA base M H b) : ab_cell D dA base M1 H1 b := by
  have hf : ∀ k t, fvl M1 b k t = fvl M b k t := fun k t => by unfold fvl; rw [h1, h5]
  unfold ab_cell at h ⊢
  simp only [h1, h2, h3, h4, h5, hf, hq]
  by_cases c1 : mK M b < 12
  · rw [if_pos c1] at h ⊢
    exact h.kept hq
  · rw [if_neg c1] at h ⊢
    exact h
theorem ab_Wd.upd {D : va_G} {dA : Nat → ClassId} {base : Nat} {M M1 : ab_M} {H H1 : Heap} (h : ab_Wd D dA base M H) (a : Nat) (hz : mZ M1 = mZ M) (hk : mK M1 = mK M) (hn : mN M1 = mN M) (hI : ∀ b, b ≠ a → mI M1 b = mI M b) (hJ : ∀ b, b ≠ a → mJ M1 b = mJ M b) (hR : ∀ b, b ≠ a → mR M1 b = mR M b) (z : H1.size = H.size) (oq : ∀ q : Nat, q ≠ base + a → H1[q]? = H[q]?) (hc : ab_cell D dA base M1 H1 a) : ab_Wd D dA base M1 H1 := by
  refine ⟨by rw [z, hz]; exact h.1, fun b hb => ?_, fun b hb => by rw [hk]; exact h.2.2 b (by rw [← hz]; exact hb)⟩
  by_cases e : b = a
  · subst e
    exact hc
  · exact ab_cell_kept (hI b e) (hJ b e) (by rw [hk]) (by rw [hn]) (hR b e) (oq _ (by omega)) (h.2.1 b (by rw [← hz]; exact hb))
theorem ab_Wd.new {D : va_G} {dA : Nat → ClassId} {base : Nat} {M : ab_M} {H H1 : Heap} {kd len sl : Nat} (h : ab_Wd D dA base M H) (z : H1.size = H.size + 1) (oq : ∀ q : Nat, q < H.size → H1[q]? = H[q]?) (hc : ab_cell D dA base (mNew M kd len sl) H1 (mZ M)) : ab_Wd D dA base (mNew M kd len sl) H1 := by
  have hz : mZ (mNew M kd len sl) = mZ M + 1 := rfl
  refine ⟨by rw [z, hz, h.1]; omega, fun b hb => ?_, fun b hb => ?_⟩
  · by_cases e : b = mZ M
    · subst e
      exact hc
    · have hb' : b < mZ M := by omega
      refine ab_cell_kept ?_ ?_ ?_ ?_ ?_ (oq _ (by rw [h.1]; omega)) (h.2.1 b hb')
      · show u1 _ _ _ b = _
        exact if_neg e
      · show u1 _ _ _ b = _
        exact if_neg e
      · show u1 _ _ _ b = _
        exact if_neg e
      · show u1 _ _ _ b = _
        exact if_neg e
      · show u1 _ _ _ b = _
        exact if_neg e
  · show u1 _ _ _ b = _
    have e : ¬ b = mZ M := by omega
    rw [u1, if_neg e]
    exact h.2.2 b (by omega)
/-! locals -/
def asc (base : Nat) : Nat → ab_L → List (Nat × Value)
  | _, [] => []
  | k, none :: r => asc base (k + 1) r
  | k, some v :: r => (k, cv base v) :: asc base (k + 1) r
theorem mem_asc {base : Nat} : ∀ (ls : ab_L) (k : Nat) (q : Nat × Value), q ∈ asc base k ls ↔ ∃ i v, q.1 = k + i ∧ lg ls i = some v ∧ q.2 = cv base v := by
  intro ls
  induction ls with
  | nil => intro k q; simp [asc, lg]
  | cons o r ih =>
    intro k q
    have tail : (q ∈ asc base (k + 1) r) ↔ ∃ i v, q.1 = k + (i + 1) ∧ lg (o :: r) (i + 1) = some v ∧ q.2 = cv base v := by
      rw [ih]
      constructor
      · rintro ⟨i, v, h1, h2, h3⟩
        exact ⟨i, v, by omega, h2, h3⟩
      · rintro ⟨i, v, h1, h2, h3⟩
        exact ⟨i, v, by omega, h2, h3⟩
    cases o with
    | none =>
      show q ∈ asc base (k + 1) r ↔ _
      rw [tail]
      constructor
      · rintro ⟨i, v, h⟩
        exact ⟨i + 1, v, h⟩
      · rintro ⟨i, v, h1, h2, h3⟩
        cases i with
        | zero => cases h2
        | succ i => exact ⟨i, v, h1, h2, h3⟩
    | some w =>
      show q ∈ (k, cv base w) :: asc base (k + 1) r ↔ _
      rw [List.mem_cons, tail]
      constructor
      · rintro (rfl | ⟨i, v, h⟩)
        · exact ⟨0, w, rfl, rfl, rfl⟩
        · exact ⟨i + 1, v, h⟩
      · rintro ⟨i, v, h1, h2, h3⟩
        cases i with
        | zero =>
          cases h2
          exact Or.inl (Prod.ext h1 h3)
        | succ i => exact Or.inr ⟨i, v, h1, h2, h3⟩
theorem lg_asc {base : Nat} {lsA : Array Slot} {nL : Nat} {ls : ab_L} (h : lv_has lsA nL (asc base 0 ls)) {i : Nat} {v : Value} (hv : lg ls i = some v) : lsA[i]? = some (.val (cv base v)) :=
  h.2.2 (i, cv base v) ((mem_asc ls 0 _).mpr ⟨i, v, by simp, hv, rfl⟩)
theorem lv_mono {lsA : Array Slot} {nL : Nat} {l l' : List (Nat × Value)} (h : lv_has lsA nL l) (hs : ∀ q ∈ l', q ∈ l) : lv_has lsA nL l' := ⟨h.1, h.2.1, fun q hq => h.2.2 q (hs q hq)⟩
theorem lg_lcl {o : Option Value} {w : Value} (h : lcl o = some w) : o = some w ∧ w.category ≠ 2 := by
  cases o with
  | none => cases h
  | some v => cases v <;> first | cases h; exact ⟨rfl, by decide⟩ | (cases h; exact ⟨rfl, by simp [Value.category]⟩) | cases h
theorem ls1_spec : ∀ (ls : ab_L) (i : Nat) (v : Value) (ls' : ab_L), ls1 ls i v = some ls' → i < ls.length ∧ ls'.length = ls.length ∧ ∀ j w, lg ls' j = some w → (j = i ∧ w = v) ∨ (j ≠ i ∧ lg ls j = some w ∧ (j + 1 = i → w.category ≠ 2)) := by
  intro ls
  induction ls with
  | nil => intro i v ls' h; simp [ls1] at h
  | cons a r ih =>
    intro i v ls' h
    match i with
    | 0 =>
      simp only [ls1, Option.some.injEq] at h
      subst h
      refine ⟨by simp, by simp, fun j w hj => ?_⟩
      cases j with
      | zero => cases hj; exact Or.inl ⟨rfl, rfl⟩
      | succ j => exact Or.inr ⟨by omega, hj, by omega⟩
    | 1 =>
      cases r with
      | nil => simp [ls1] at h
      | cons b r' =>
        simp only [ls1, Option.some.injEq] at h
        subst h
        refine ⟨by simp, by simp, fun j w hj => ?_⟩
        match j with
        | 0 =>
          obtain ⟨e1, e2⟩ := lg_lcl hj
          exact Or.inr ⟨by omega, e1, fun _ => e2⟩
        | 1 => cases hj; exact Or.inl ⟨rfl, rfl⟩
        | j + 2 => exact Or.inr ⟨by omega, hj, by omega⟩
    | k + 2 =>
      simp only [ls1] at h
      cases h1 : ls1 r (k + 1) v with
      | none => rw [h1] at h; simp at h
      | some r' =>
        rw [h1] at h
        simp only [Option.some.injEq] at h
        subst h
        obtain ⟨e1, e2, e3⟩ := ih _ _ _ h1
        refine ⟨by simp; omega, by simp [e2], fun j w hj => ?_⟩
        cases j with
        | zero => exact Or.inr ⟨by omega, hj, by omega⟩
        | succ j =>
          rcases e3 j w hj with ⟨g1, g2⟩ | ⟨g1, g2, g3⟩
          · exact Or.inl ⟨by omega, g2⟩
          · exact Or.inr ⟨by omega, g2, fun e => g3 (by omega)⟩
theorem lsn_spec : ∀ (ls : ab_L) (i : Nat) (ls' : ab_L), lsn ls i = some ls' → i < ls.length ∧ ls'.length = ls.length ∧ ∀ j w, lg ls' j = some w → j ≠ i ∧ lg ls j = some w := by
  intro ls
  induction ls with
  | nil => intro i ls' h; simp [lsn] at h
  | cons a r ih =>
    intro i ls' h
    cases i with
    | zero =>
      simp only [lsn, Option.some.injEq] at h
      subst h
      refine ⟨by simp, by simp, fun j w hj => ?_⟩
      cases j with
      | zero => cases hj
      | succ j => exact ⟨by omega, hj⟩
    | succ k =>
      simp only [lsn] at h
      cases h1 : lsn r k with
      | none => rw [h1] at h; simp at h
      | some r' =>
        rw [h1] at h
        simp only [Option.some.injEq] at h
        subst h
        obtain ⟨e1, e2, e3⟩ := ih _ _ h1
        refine ⟨by simp; omega, by simp [e2], fun j w hj => ?_⟩
        cases j with
        | zero => exact ⟨by omega, hj⟩
        | succ j =>
          obtain ⟨g1, g2⟩ := e3 j w hj
          exact ⟨by omega, g2⟩
theorem asc_set1 {base : Nat} {ls ls' : ab_L} {i : Nat} {v : Value} (h : ls1 ls i v = some ls') : ∀ q ∈ asc base 0 ls', q ∈ (i, cv base v) :: (asc base 0 ls).filter (fun q => !(q.1 == i) && !(q.1 + 1 == i && q.2.category == 2)) := by
  intro q hq
  obtain ⟨j, w, e1, e2, e3⟩ := (mem_asc _ _ _).mp hq
  rw [Nat.zero_add] at e1
  obtain ⟨-, -, hs⟩ := ls1_spec _ _ _ _ h
  rcases hs j w e2 with ⟨g1, g2⟩ | ⟨g1, g2, g3⟩
  · rw [List.mem_cons]
    exact Or.inl (Prod.ext (e1.trans g1) (by rw [e3, g2]))
  · rw [List.mem_cons]
    refine Or.inr (List.mem_filter.mpr ⟨(mem_asc _ _ _).mpr ⟨j, w, by omega, g2, e3⟩, ?_⟩)
    rw [e1, e3, cv_cat]
    simp only [Bool.and_eq_true, Bool.not_eq_true', beq_eq_false_iff_ne, ne_eq, Bool.and_eq_false_iff]
    refine ⟨g1, ?_⟩
    by_cases c : j + 1 = i
    · exact Or.inr (g3 c)
    · exact Or.inl c
theorem asc_set2 {base : Nat} {ls ls' : ab_L} {i : Nat} {v : Value} (h : ls2 ls i v = some ls') : ∀ q ∈ asc base 0 ls', q ∈ (i, cv base v) :: (asc base 0 ls).filter (fun q => !(q.1 == i) && (!(q.1 == i + 1) && !(q.1 + 1 == i && q.2.category == 2))) := by
  intro q hq
  obtain ⟨j, w, e1, e2, e3⟩ := (mem_asc _ _ _).mp hq
  rw [Nat.zero_add] at e1
  unfold ls2 at h
  cases h1 : ls1 ls i v with
  | none => rw [h1] at h; cases h
  | some l =>
    rw [h1] at h
    obtain ⟨-, -, hs⟩ := ls1_spec _ _ _ _ h1
    obtain ⟨-, -, hn⟩ := lsn_spec _ _ _ h
    obtain ⟨n1, n2⟩ := hn j w e2
    rcases hs j w n2 with ⟨g1, g2⟩ | ⟨g1, g2, g3⟩
    · rw [List.mem_cons]
      exact Or.inl (Prod.ext (e1.trans g1) (by rw [e3, g2]))
    · rw [List.mem_cons]
      refine Or.inr (List.mem_filter.mpr ⟨(mem_asc _ _ _).mpr ⟨j, w, by omega, g2, e3⟩, ?_⟩)
      rw [e1, e3, cv_cat]
      simp only [Bool.and_eq_true, Bool.not_eq_true', beq_eq_false_iff_ne, ne_eq, Bool.and_eq_false_iff]
      refine ⟨g1, n1, ?_⟩
      by_cases c : j + 1 = i
      · exact Or.inr (g3 c)
      · exact Or.inl c
theorem ls2_len {ls ls' : ab_L} {i : Nat} {v : Value} (h : ls2 ls i v = some ls') : i + 1 < ls.length ∧ ls'.length = ls.length := by
  unfold ls2 at h
  cases h1 : ls1 ls i v with
  | none => rw [h1] at h; cases h
  | some l =>
    rw [h1] at h
    obtain ⟨-, e2, -⟩ := ls1_spec _ _ _ _ h1
    obtain ⟨n1, n2, -⟩ := lsn_spec _ _ _ h
    exact ⟨by omega, by omega⟩
/-! the first locals -/
theorem padA_args {base : Nat} : ∀ (as : List Value) (k : Nat) (n : Nat) (q : Nat × Value), q ∈ asc base k ((as.flatMap fun v => if v.category = 2 then [some v, none] else [some v]) ++ List.replicate n none) → q ∈ lv_args k (as.map (cv base)) := by
  intro as
  induction as with
  | nil =>
    intro k n q hq
    exfalso
    rw [mem_asc] at hq
    obtain ⟨i, v, -, h, -⟩ := hq
    have : ∀ (n i : Nat), lg (List.replicate n none) i = none := by
      intro n
      induction n with
      | zero => intro i; rfl
      | succ n ih =>
        intro i
        rw [List.replicate_succ]
        cases i with
        | zero => rfl
        | succ i => exact ih i
    rw [List.flatMap_nil, List.nil_append, this] at h
    cases h
  | cons v vs ih =>
    intro k n q hq
    rw [List.flatMap_cons] at hq
    rw [List.map_cons]
    show q ∈ (k, cv base v) :: lv_args (if (cv base v).category = 2 then k + 2 else k + 1) (vs.map (cv base))
    rw [cv_cat]
    by_cases hc : v.category = 2
    · rw [if_pos hc] at hq ⊢
      have hq' : q ∈ (k, cv base v) :: asc base (k + 2) ((vs.flatMap fun v => if v.category = 2 then [some v, none] else [some v]) ++ List.replicate n none) := hq
      rw [List.mem_cons] at hq' ⊢
      exact hq'.imp id (ih _ _ _)
    · rw [if_neg hc] at hq ⊢
      have hq' : q ∈ (k, cv base v) :: asc base (k + 1) ((vs.flatMap fun v => if v.category = 2 then [some v, none] else [some v]) ++ List.replicate n none) := hq
      rw [List.mem_cons] at hq' ⊢
      exact hq'.imp id (ih _ _ _)
theorem lg_sl_len {base : Nat} (as : List Value) : (lg_sl (as.map (cv base))).length = (as.flatMap fun v => if v.category = 2 then [some v, none] else [some v] : List (Option Value)).length := by
  induction as with
  | nil => rfl
  | cons v vs ih =>
    rw [List.map_cons, List.flatMap_cons, List.length_append, ← ih]
    show ((if (cv base v).category = 2 then [Slot.val (cv base v), .second] else [Slot.val (cv base v)]) ++ lg_sl (vs.map (cv base))).length = _
    rw [List.length_append, cv_cat]
    by_cases hc : v.category = 2
    · rw [if_pos hc, if_pos hc]; rfl
    · rw [if_neg hc, if_neg hc]; rfl
