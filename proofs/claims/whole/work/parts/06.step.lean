/-! table facts -/
def ab_by (mi : Nat) : ByteArray := (ab_me mi).1.2.1
def ab_wsM (mi : Nat) : List Cond := Cond.code (ab_yN mi) (ab_by mi) (ab_ml mi) (ab_ret mi) :: ab_W
theorem ab_me_mem (mi : Nat) : ab_me mi ∈ ab_mL := by
  unfold ab_me
  rw [List.getD_eq_getElem?_getD]
  by_cases h : mi < ab_mL.length
  · rw [List.getElem?_eq_getElem h]
    exact List.getElem_mem h
  · rw [List.getElem?_eq_none (by omega)]
    exact List.mem_cons_self
theorem ab_me_ok (mi : Nat) : ab_okE (ab_me mi) = true := ab_mL_ok _ (ab_me_mem mi)
theorem ab_facts (mi : Nat) : Cond.code (ab_yN mi) (ab_by mi) (ab_ml mi) (ab_ret mi) ∈ ab_W ∧ ab_oN (ab_o mi) = (ab_yN mi).cls ∧ plainFor (ab_yN mi) = true ∧ ((ab_yN mi).cls ≠ "java/lang/invoke/MethodHandle" ∧ (ab_yN mi).cls ≠ "java/lang/invoke/VarHandle") ∧ ((ab_yN mi).name = "<init>") = (ab_ini mi = true) ∧ ab_ml mi ≤ 24 := by
  have h := ab_me_ok mi
  unfold ab_okE at h
  simp only [Bool.and_eq_true, decide_eq_true_eq] at h
  obtain ⟨-, h1, h2, h3, h4, h5, h6⟩ := h
  exact ⟨ab_inW_mem h1, h2, h3, h4, h5, h6⟩
theorem lkC_dec {mi pc : Nat} {ins : Instr} (h : lkC mi pc = some ins) : ∃ l, decode (ab_by mi) pc = .ok (ins, l) ∧ (ab_len ins = 0 ∨ l = ab_len ins) := by
  unfold lkC at h
  cases hf : (ab_me mi).2.2.find? (fun r => r.1 == pc) with
  | none => rw [hf] at h; cases h
  | some r =>
    rw [hf] at h
    cases h
    have hm := List.mem_of_find?_eq_some hf
    have hp := List.find?_some hf
    have hp' : r.1 = pc := by simpa using hp
    have h1 := ab_me_ok mi
    unfold ab_okE at h1
    simp only [Bool.and_eq_true] at h1
    have h2 := List.all_eq_true.mp h1.1 r hm
    unfold ab_okI at h2
    rw [hp'] at h2
    show ∃ l, decode (ab_me mi).1.2.1 pc = _ ∧ _
    cases hd : decode (ab_me mi).1.2.1 pc with
    | error e => rw [hd] at h2; cases h2
    | ok q =>
      obtain ⟨i, l⟩ := q
      rw [hd] at h2
      simp only [Bool.and_eq_true, decide_eq_true_eq, Bool.or_eq_true, beq_iff_eq] at h2
      obtain ⟨h3, h4⟩ := h2
      subst h3
      exact ⟨l, rfl, h4⟩
theorem dec1 {mi pc : Nat} {ins : Instr} (n : Nat) (h : lkC mi pc = some ins) (hn : ab_len ins = n + 1) : decode (ab_by mi) pc = .ok (ins, n + 1) := by
  obtain ⟨l, h1, h2⟩ := lkC_dec h
  rcases h2 with h2 | h2
  · omega
  · rw [h2, hn] at h1
    exact h1
theorem lkF_ok {o i ci f t : Nat} {fin : Bool} (h : lkF o i = some (ci, f, t, fin)) : ∃ C T N, ab_cl[ci]? = some (C, T, N) ∧ f < N ∧ Cond.fieldLink (ab_oN o) i C (T f).2.1 (T f).2.2.1 ∈ ab_W ∧ (T f).1 = C ∧ (T f).2.2.2 = fin ∧ ab_okT t (parseFieldDescriptor (T f).2.2.1) = true ∧ ab_ft ci f = t ∧ ab_oN ci = C := by
  unfold lkF at h
  cases hf : ab_fL.find? (fun f => f.1 == o && f.2.1 == i) with
  | none => rw [hf] at h; cases h
  | some r =>
    rw [hf] at h
    cases h
    have hm := List.mem_of_find?_eq_some hf
    have hp := List.find?_some hf
    simp only [Bool.and_eq_true, beq_iff_eq] at hp
    have h1 := List.all_eq_true.mp ab_fL_ok r hm
    obtain ⟨o', i', ci, f, t, fin, pl⟩ := r
    obtain ⟨e1, e2⟩ := hp
    dsimp only at e1 e2
    subst e1; subst e2
    unfold ab_okF at h1
    dsimp only at h1 ⊢
    cases hc : ab_cl[ci]? with
    | none => rw [hc] at h1; cases h1
    | some q =>
      obtain ⟨C, T, N⟩ := q
      rw [hc] at h1
      simp only [Bool.and_eq_true, decide_eq_true_eq] at h1
      obtain ⟨g1, g2, g3, g4, g5, g6, g7⟩ := h1
      exact ⟨C, T, N, rfl, g1, ab_inW_mem g2, g3, g4, g5, g6, g7⟩
theorem lkK_ok {o i : Nat} {v : Int32} (h : lkK o i = some v) : Cond.constant (ab_oN o) i v ∈ ab_W := by
  unfold lkK at h
  cases hf : ab_kL.find? (fun f => f.1 == o && f.2.1 == i) with
  | none => rw [hf] at h; cases h
  | some r =>
    rw [hf] at h
    cases h
    have hp := List.find?_some hf
    simp only [Bool.and_eq_true, beq_iff_eq] at hp
    have h1 := List.all_eq_true.mp ab_kL_ok r (List.mem_of_find?_eq_some hf)
    rw [← hp.1, ← hp.2]
    exact ab_inW_mem h1
theorem lkJ_ok {o i : Nat} {v : Int64} (h : lkJ o i = some v) : Cond.constantLong (ab_oN o) i v ∈ ab_W := by
  unfold lkJ at h
  cases hf : ab_jL.find? (fun f => f.1 == o && f.2.1 == i) with
  | none => rw [hf] at h; cases h
  | some r =>
    rw [hf] at h
    cases h
    have hp := List.find?_some hf
    simp only [Bool.and_eq_true, beq_iff_eq] at hp
    have h1 := List.all_eq_true.mp ab_jL_ok r (List.mem_of_find?_eq_some hf)
    rw [← hp.1, ← hp.2]
    exact ab_inW_mem h1
theorem lkN_ok {o i ci : Nat} (h : lkN o i = some ci) : ∃ C T N, ab_cl[ci]? = some (C, T, N) ∧ Cond.classLink (ab_oN o) i C ∈ ab_W ∧ Cond.instantiable C N ∈ ab_W ∧ Cond.initialized C ∈ ab_W ∧ ab_nF ci = N := by
  unfold lkN at h
  cases hf : ab_nL.find? (fun f => f.1 == o && f.2.1 == i) with
  | none => rw [hf] at h; cases h
  | some r =>
    rw [hf] at h
    cases h
    have hp := List.find?_some hf
    simp only [Bool.and_eq_true, beq_iff_eq] at hp
    have h1 := List.all_eq_true.mp ab_nL_ok r (List.mem_of_find?_eq_some hf)
    obtain ⟨o', i', ci, p1, p2, p3⟩ := r
    obtain ⟨e1, e2⟩ := hp
    dsimp only at e1 e2
    subst e1; subst e2
    unfold ab_okN at h1
    dsimp only at h1 ⊢
    cases hc : ab_cl[ci]? with
    | none => rw [hc] at h1; cases h1
    | some q =>
      obtain ⟨C, T, N⟩ := q
      rw [hc] at h1
      simp only [Bool.and_eq_true, decide_eq_true_eq] at h1
      obtain ⟨g1, ⟨g2, g3⟩, g4⟩ := h1
      exact ⟨C, T, N, rfl, ab_inW_mem g1, ab_inW_mem g2, ab_inW_mem g3, g4⟩
theorem lkY_ok {o i kd y n : Nat} (h : lkY o i = some (kd, y, n)) : ∃ pl p1 p2 p3, ab_okY (o, i, kd, y, n, pl, p1, p2, p3) = true := by
  unfold lkY at h
  cases hf : ab_yL.find? (fun f => f.1 == o && f.2.1 == i) with
  | none => rw [hf] at h; cases h
  | some r =>
    rw [hf] at h
    cases h
    have hp := List.find?_some hf
    simp only [Bool.and_eq_true, beq_iff_eq] at hp
    have h1 := List.all_eq_true.mp ab_yL_ok r (List.mem_of_find?_eq_some hf)
    obtain ⟨o', i', kd, y, n, pl, p1, p2, p3⟩ := r
    obtain ⟨e1, e2⟩ := hp
    dsimp only at e1 e2
    subst e1; subst e2
    exact ⟨pl, p1, p2, p3, h1⟩
theorem ab_cl_ok : ∀ (ci : Nat) (C : String) (T : u_T) (N : Nat), ab_cl[ci]? = some (C, T, N) → ci < 12 ∧ ab_nF ci = N ∧ (∀ k, k < N → ab_okT (ab_ft ci k) (parseFieldDescriptor (T k).2.2.1) = true) ∧ ∀ a, a < N → ∀ b, b < N → a ≠ b → (T a).2.1 ≠ (T b).2.1 := by
  intro ci C T N h
  match ci, h with

  | 0, h => cases h; exact ⟨by decide, by decide +kernel, by decide +kernel, nmX0⟩
  | 1, h => cases h; exact ⟨by decide, by decide +kernel, by decide +kernel, nmX1⟩
  | 2, h => cases h; exact ⟨by decide, by decide +kernel, by decide +kernel, nmX2⟩
  | 3, h => cases h; exact ⟨by decide, by decide +kernel, by decide +kernel, nmX3⟩
  | 4, h => cases h; exact ⟨by decide, by decide +kernel, by decide +kernel, nmX4⟩
  | 5, h => cases h; exact ⟨by decide, by decide +kernel, by decide +kernel, nmX5⟩
  | 6, h => cases h; exact ⟨by decide, by decide +kernel, by decide +kernel, nmX6⟩
  | 7, h => cases h; exact ⟨by decide, by decide +kernel, by decide +kernel, nmX7⟩
  | 8, h => cases h; exact ⟨by decide, by decide +kernel, by decide +kernel, nmX8⟩
  | 9, h => cases h; exact ⟨by decide, by decide +kernel, by decide +kernel, nmX9⟩
  | 10, h => cases h; exact ⟨by decide, by decide +kernel, by decide +kernel, nmX10⟩
  | 11, h => cases h; exact ⟨by decide, by decide +kernel, by decide +kernel, nmX11⟩
  | k + 12, h => simp [ab_cl] at h
theorem okT_0 {ty : Option FieldType} (h : ab_okT 0 ty = true) : ty = some .int := by
  unfold ab_okT at h
  split at h <;> first | rfl | (simp_all; done) | cases h
theorem okT_1 {ty : Option FieldType} (h : ab_okT 1 ty = true) : ty = some .boolean := by
  unfold ab_okT at h
  split at h <;> first | rfl | (simp_all; done) | cases h
theorem okT_2 {ty : Option FieldType} (h : ab_okT 2 ty = true) : (∃ n, ty = some (.object n)) ∨ ∃ t, ty = some (.array t) := by
  unfold ab_okT at h
  split at h <;> first | exact Or.inl ⟨_, rfl⟩ | exact Or.inr ⟨_, rfl⟩ | (simp_all; done) | cases h
theorem okT_lt {t : Nat} {ty : Option FieldType} (h : ab_okT t ty = true) : t = 0 ∨ t = 1 ∨ t = 2 := by
  unfold ab_okT at h
  split at h <;> simp_all
/-! what a run stands on -/
def ab_K (D : va_G) (dA : Nat → ClassId) (s : State) : Prop := va_K D ab_cl [(dA 20, .int), (dA 21, .long), (dA 22, .boolean), (dA 23, .object "ParrotTontine$State")] s ∧ (∀ w ∈ lw_tbl, ab_nest w = true → va_Nw w s) ∧ va_AO "ParrotTontine$State" s
theorem ab_K.warm {D : va_G} {dA : Nat → ClassId} {s U : State} (h : ab_K D dA s) (hW : s.WarmedH U.vm) : ab_K D dA U := by
  refine ⟨va_K.moved hW.alike h.1, fun w hw hn => ?_, va_AO.moved hW.alike h.2.2⟩
  have h1 := h.2.1 w hw hn
  cases w <;> first | exact va_Nw.warmM hW h1 | (simp [ab_nest] at hn)
theorem ab_K.same {D : va_G} {dA : Nat → ClassId} {s U : State} (h : ab_K D dA s) (hv : s.vm = U.vm) : ab_K D dA U := by
  have ha : s.vm.Alike U.vm := by rw [hv]; exact Vm.Alike.refl _
  refine ⟨va_K.moved ha h.1, fun w hw hn => ?_, va_AO.moved ha h.2.2⟩
  have h1 := h.2.1 w hw hn
  cases w <;> first | exact va_Nw.same rfl hv h1 | (simp [ab_nest] at hn)
def ab_Fr (base : Nat) (H0 H : Heap) (locs : List Loc) : Prop := H0.size ≤ H.size ∧ (∀ q : Nat, q < base → H[q]? = H0[q]?) ∧ ∀ q ∈ locs, base ≤ q.base
theorem ab_Fr.upd {base : Nat} {H0 H H1 : Heap} {locs : List Loc} {a k : Nat} (h : ab_Fr base H0 H locs) (z : H1.size = H.size) (oq : ∀ q : Nat, q ≠ base + a → H1[q]? = H[q]?) : ab_Fr base H0 H1 (locs ++ [⟨base + a, k⟩]) := by
  refine ⟨by rw [z]; exact h.1, fun q hq => (oq q (by omega)).trans (h.2.1 q hq), fun q hq => ?_⟩
  rcases List.mem_append.mp hq with h1 | h1
  · exact h.2.2 q h1
  · rw [List.mem_singleton.mp h1]
    exact Nat.le_add_right _ _
theorem ab_Fr.new {base : Nat} {H0 H H1 : Heap} {locs : List Loc} (h : ab_Fr base H0 H locs) (hb : base ≤ H.size) (z : H1.size = H.size + 1) (oq : ∀ q : Nat, q < H.size → H1[q]? = H[q]?) : ab_Fr base H0 H1 locs :=
  ⟨by rw [z]; exact Nat.le_succ_of_le h.1, fun q hq => (oq q (by omega)).trans (h.2.1 q hq), h.2.2⟩
theorem okR_sum : ∀ (n : Nat) (r : List Value), okR n r = true → (r.map fun v => v.category).sum ≤ n := by
  intro n r
  induction r generalizing n with
  | nil => intro _; simp
  | cons v r ih =>
    intro h
    rw [List.map_cons, List.sum_cons]
    cases v with
    | long x =>
      match n, h with
      | n + 2, h => have h1 := ih n h; show 2 + _ ≤ n + 2; omega
      | 0, h => cases h
      | 1, h => cases h
    | double x =>
      match n, h with
      | n + 2, h => cases h
      | 0, h => cases h
      | 1, h => cases h
    | int x =>
      match n, h with
      | n + 1, h => have h1 := ih n (by cases n <;> exact h); show 1 + _ ≤ n + 1; omega
    | ref x =>
      match n, h with
      | n + 1, h => have h1 := ih n (by cases n <;> exact h); show 1 + _ ≤ n + 1; omega
    | null =>
      match n, h with
      | n + 1, h => have h1 := ih n (by cases n <;> exact h); show 1 + _ ≤ n + 1; omega
    | _ =>
      match n, h with
      | n + 1, h => have h1 := ih n (by cases n <;> exact h); show 1 + _ ≤ n + 1; omega
theorem okR_cv {base n : Nat} {r : List Value} (h : okR n r = true) : ((r.map (cv base)).map fun v => v.category).sum ≤ n := by
  rw [List.map_map]
  have : ((fun v => v.category) ∘ cv base) = fun v => v.category := funext fun v => cv_cat base v
  rw [this]
  exact okR_sum n r h
/-! what a step shows of what it found -/
theorem qN_inv {pc : Nat} {ls : ab_L} {st : List Value} {M : ab_M} {q : Nat × ab_L × List Value × ab_M} (h : qN pc ls st M = some (.inl q)) : q = (pc, ls, st, M) := by
  cases h
  rfl
theorem qI_inv {st : List Value} {k : Int32 → List Value → ab_R} {q} (h : qI st k = some q) : ∃ x r, st = .int x :: r ∧ k x r = some q := by
  unfold qI at h
  split at h
  · exact ⟨_, _, rfl, h⟩
  · cases h
theorem qII_inv {st : List Value} {k : Int32 → Int32 → List Value → ab_R} {q} (h : qII st k = some q) : ∃ x y r, st = .int y :: .int x :: r ∧ k x y r = some q := by
  unfold qII at h
  split at h
  · exact ⟨_, _, _, rfl, h⟩
  · cases h
theorem qJJ_inv {st : List Value} {k : Int64 → Int64 → List Value → ab_R} {q} (h : qJJ st k = some q) : ∃ x y r, st = .long y :: .long x :: r ∧ k x y r = some q := by
  unfold qJJ at h
  split at h
  · exact ⟨_, _, _, rfl, h⟩
  · cases h
theorem qT_inv {pc : Nat} {off : Int} {k : Nat → ab_R} {q} (h : qT pc off k = some q) : ∃ t : Nat, (pc : Int) + off = (t : Int) ∧ k t = some q := by
  unfold qT at h
  split at h
  next t ht => exact ⟨t, ht, h⟩
  · cases h
theorem qL_inv {l : Option ab_L} {k : ab_L → ab_R} {q} (h : qL l k = some q) : ∃ l', l = some l' ∧ k l' = some q := by
  unfold qL at h
  split at h
  · exact ⟨_, rfl, h⟩
  · cases h
theorem lvI_inv {ls : ab_L} {i : Nat} {k : Int32 → ab_R} {q} (h : lvI ls i k = some q) : ∃ x, lg ls i = some (.int x) ∧ k x = some q := by
  unfold lvI at h
  split at h
  next x hx => exact ⟨x, hx, h⟩
  · cases h
theorem lvJ_inv {ls : ab_L} {i : Nat} {k : Int64 → ab_R} {q} (h : lvJ ls i k = some q) : ∃ x, lg ls i = some (.long x) ∧ k x = some q := by
  unfold lvJ at h
  split at h
  next x hx => exact ⟨x, hx, h⟩
  · cases h
theorem lvA_inv {ls : ab_L} {i : Nat} {k : Nat → ab_R} {q} (h : lvA ls i k = some q) : ∃ x, lg ls i = some (.ref x) ∧ k x = some q := by
  unfold lvA at h
  split at h
  next x hx => exact ⟨x, hx, h⟩
  · cases h
theorem if_inv {α : Type} {c : Prop} [Decidable c] {a : Option α} {q : α} (h : (if c then a else none) = some q) : c ∧ a = some q := by
  by_cases hc : c
  · rw [if_pos hc] at h
    exact ⟨hc, h⟩
  · rw [if_neg hc] at h
    cases h
theorem ifn_inv {α : Type} {c : Prop} [Decidable c] {a : Option α} {q : α} (h : (if c then none else a) = some q) : ¬ c ∧ a = some q := by
  by_cases hc : c
  · rw [if_pos hc] at h
    cases h
  · rw [if_neg hc] at h
    exact ⟨hc, h⟩
theorem bGet_inv {M : ab_M} {mi i a : Nat} {k : Value → ab_R} {q} (h : bGet M mi i a k = some q) : ∃ ci f t fin, lkF (ab_o mi) i = some (ci, f, t, fin) ∧ mK M a = ci ∧ k (fvl M a f t) = some q := by
  unfold bGet at h
  split at h
  next ci f t fin hl =>
    obtain ⟨h1, h2⟩ := if_inv h
    exact ⟨ci, f, t, fin, hl, h1, h2⟩
  · cases h
theorem bPut_inv {M : ab_M} {mi i a : Nat} {v : Value} {k : ab_M → ab_R} {q} (h : bPut M mi i a v k = some q) : ∃ ci f t fin, lkF (ab_o mi) i = some (ci, f, t, fin) ∧ mK M a = ci ∧ (fin = false ∨ (ab_ini mi = true ∧ ab_o mi = ci)) ∧ ((∃ x, t = 0 ∧ v = .int x ∧ k (wI M a f x) = some q) ∨ (∃ x, t = 1 ∧ v = .int x ∧ (x = 0 ∨ x = 1) ∧ k (wI M a f x) = some q) ∨ (∃ b, t = 2 ∧ v = .ref b ∧ k (wR M a f (some b)) = some q)) := by
  unfold bPut at h
  split at h
  next ci f t fin hl =>
    obtain ⟨h1, h2⟩ := if_inv h
    refine ⟨ci, f, t, fin, hl, h1.1, h1.2, ?_⟩
    split at h2
    · exact Or.inl ⟨_, rfl, rfl, h2⟩
    · obtain ⟨h3, h4⟩ := if_inv h2
      exact Or.inr (Or.inl ⟨_, rfl, rfl, h3, h4⟩)
    · exact Or.inr (Or.inr ⟨_, rfl, rfl, h2⟩)
    · cases h2
  · cases h
theorem popN_spec : ∀ (n : Nat) (st acc as r : List Value), popN n st acc = some (as, r) → ∃ b : List Value, b.length = n ∧ as = b.reverse ++ acc ∧ st = b ++ r := by
  intro n
  induction n with
  | zero =>
    intro st acc as r h
    cases h
    exact ⟨[], rfl, rfl, rfl⟩
  | succ n ih =>
    intro st acc as r h
    cases st with
    | nil => cases h
    | cons v st =>
      obtain ⟨b, h1, h2, h3⟩ := ih _ _ _ _ h
      exact ⟨v :: b, by simp [h1], by rw [h2]; simp, by rw [h3]; rfl⟩
/-! one instruction -/
def ab_Cx (p : Program) (R : Room) (s : State) (m : MethodId) (args : Array Value) (meth : Method) (c : Code) (D : va_G) (dA : Nat → ClassId) (base mi : Nat) : Prop :=
  p.tables.exec = Jvm.exec ∧ c.code = ab_by mi ∧ meth.sig.returnType = ab_ret mi ∧ c.maxLocals = ab_ml mi ∧ s.vm.findClass (ab_oN (ab_o mi)) = some m.cls ∧ (∀ w ∈ ab_wsM mi, w.before args s = true) ∧ ab_K D dA s ∧ meth.locks = false ∧ meth.name = (ab_yN mi).name ∧ 1 ≤ R.frames ∧ 60 ≤ R.locals
def ab_Rl (s : State) (D : va_G) (dA : Nat → ClassId) (base mi : Nat) (ls : ab_L) (M : ab_M) (H : Heap) (locs : List Loc) (lsA : Array Slot) : Prop :=
  lv_has lsA (ab_ml mi) (asc base 0 ls) ∧ ls.length = ab_ml mi ∧ ab_Wd D dA base M H ∧ ab_Fr base s.heap H locs
def ab_Nx (p : Program) (l : Launch) (e : Env) (R : Room) (s : State) (m : MethodId) (args : Array Value) (below : List Frame) (meth : Method) (c : Code) (Q : State → Prop) (D : va_G) (dA : Nat → ClassId) (base mi cells slots : Nat) (M : ab_M) (q : Nat × ab_L × List Value × ab_M) : Prop :=
  ∀ H1 locs1 lsA1 cells1 slots1, ab_Rl s D dA base mi q.2.1 q.2.2.2 H1 locs1 lsA1 → cells1 + mZ M = cells + mZ q.2.2.2 → slots1 + mS M = slots + mS q.2.2.2 → W p l e R s m args below meth c H1 locs1 cells1 slots1 Q (F0 m q.1 lsA1 (q.2.2.1.map (cv base)))
section AST
variable {p : Program} {l : Launch} {e : Env} {R : Room} {s : State} {m : MethodId} {args : Array Value} {below : List Frame} {meth : Method} {c : Code} {H : Heap} {locs : List Loc} {cells slots : Nat} {Q : State → Prop}
variable {D : va_G} {dA : Nat → ClassId} {base mi pc : Nat} {ls : ab_L} {st : List Value} {M : ab_M} {lsA : Array Slot}
theorem ab_arr20 (hK : ab_K D dA s) : ArrOfT s (dA 20) .int := (hK.1.2 0 _ rfl).1
theorem ab_arr21 (hK : ab_K D dA s) : ArrOfT s (dA 21) .long := (hK.1.2 1 _ rfl).1
theorem ab_arr22 (hK : ab_K D dA s) : ArrOfT s (dA 22) .boolean := (hK.1.2 2 _ rfl).1
theorem ab_cI {H : Heap} {a : Nat} {kd : Nat} (hWd : ab_Wd D dA base M H) (hk : mK M a = kd) (h : kd = 20 ∨ kd = 22) : H[base + a]? = some (vp_cell (dA kd) (mN M a, .inl (mI M a))) := by
  have h1 := hWd.2.1 a (hWd.lt hk (by omega))
  unfold ab_cell at h1
  rw [hk, if_neg (by omega), if_neg (by omega), if_neg (by omega)] at h1
  exact h1
theorem ab_cI' {H : Heap} {a : Nat} {kd : Nat} (hk : mK M a = kd) (h : kd = 20 ∨ kd = 22) (h1 : H[base + a]? = some (vp_cell (dA kd) (mN M a, .inl (mI M a)))) : ab_cell D dA base M H a := by
  unfold ab_cell
  rw [hk, if_neg (by omega), if_neg (by omega), if_neg (by omega)]
  exact h1
theorem ab_cJ {H : Heap} {a : Nat} (hWd : ab_Wd D dA base M H) (hk : mK M a = 21) : H[base + a]? = some (vp_cell (dA 21) (mN M a, .inr (.inl (mJ M a)))) := by
  have h1 := hWd.2.1 a (hWd.lt hk (by omega))
  unfold ab_cell at h1
  rw [hk, if_neg (by omega), if_pos rfl] at h1
  exact h1
theorem ab_cJ' {H : Heap} {a : Nat} (hk : mK M a = 21) (h1 : H[base + a]? = some (vp_cell (dA 21) (mN M a, .inr (.inl (mJ M a))))) : ab_cell D dA base M H a := by
  unfold ab_cell
  rw [hk, if_neg (by omega), if_pos rfl]
  exact h1
theorem ab_cQ {H : Heap} {a : Nat} (hWd : ab_Wd D dA base M H) (hk : mK M a = 23) : H[base + a]? = some (vp_cell (dA 23) (mN M a, .inr (.inr (.inr (.inr fun j => (mR M a j).map (base + ·)))))) := by
  have h1 := hWd.2.1 a (hWd.lt hk (by omega))
  unfold ab_cell at h1
  rw [hk, if_neg (by omega), if_neg (by omega), if_pos rfl] at h1
  exact h1
theorem ab_cQ' {H : Heap} {a : Nat} (hk : mK M a = 23) (h1 : H[base + a]? = some (vp_cell (dA 23) (mN M a, .inr (.inr (.inr (.inr fun j => (mR M a j).map (base + ·))))))) : ab_cell D dA base M H a := by
  unfold ab_cell
  rw [hk, if_neg (by omega), if_neg (by omega), if_pos rfl]
  exact h1
theorem ab_cO {H : Heap} {a ci : Nat} (hWd : ab_Wd D dA base M H) (hk : mK M a = ci) (h : ci < 12) : t_OB (base + a) (D.1 ci) (ab_nF ci) (D.2 ci) H (fun k => cv base (fvl M a k (ab_ft ci k))) := by
  have h1 := hWd.2.1 a (hWd.lt hk (by omega))
  unfold ab_cell at h1
  rw [hk, if_pos h] at h1
  exact h1
theorem ab_cO' {H : Heap} {a ci : Nat} (hk : mK M a = ci) (h : ci < 12) (h1 : t_OB (base + a) (D.1 ci) (ab_nF ci) (D.2 ci) H (fun k => cv base (fvl M a k (ab_ft ci k)))) : ab_cell D dA base M H a := by
  unfold ab_cell
  rw [hk, if_pos h]
  exact h1

set_option maxHeartbeats 1000000 in
theorem st_iconst {n : Int} (hC : ab_Cx p R s m args meth c D dA base mi) (hd : lkC mi pc = some (.iconst n)) (hR : ab_Rl s D dA base mi ls M H locs lsA) {q : Nat × ab_L × List Value × ab_M} (h : stp mi pc (.iconst n) ls st M = some (.inl q)) (hc : cells + mZ q.2.2.2 ≤ R.cells + mZ M) (hs : slots + mS q.2.2.2 ≤ R.slots + mS M) (k : ab_Nx p l e R s m args below meth c Q D dA base mi cells slots M q) : W p l e R s m args below meth c H locs cells slots Q (F0 m pc lsA (st.map (cv base))) := by
  obtain ⟨hx, hb, hr, hml, hown, hts, hK, hlocks, hnm, hfr, hlo⟩ := hC
  have h := qN_inv h
  subst h
  exact lv_iconst hx hb (dec1 0 hd rfl) rfl (k H locs lsA cells slots hR rfl rfl)

set_option maxHeartbeats 1000000 in
theorem st_bipush {n : Int} (hC : ab_Cx p R s m args meth c D dA base mi) (hd : lkC mi pc = some (.bipush n)) (hR : ab_Rl s D dA base mi ls M H locs lsA) {q : Nat × ab_L × List Value × ab_M} (h : stp mi pc (.bipush n) ls st M = some (.inl q)) (hc : cells + mZ q.2.2.2 ≤ R.cells + mZ M) (hs : slots + mS q.2.2.2 ≤ R.slots + mS M) (k : ab_Nx p l e R s m args below meth c Q D dA base mi cells slots M q) : W p l e R s m args below meth c H locs cells slots Q (F0 m pc lsA (st.map (cv base))) := by
  obtain ⟨hx, hb, hr, hml, hown, hts, hK, hlocks, hnm, hfr, hlo⟩ := hC
  have h := qN_inv h
  subst h
  exact lv_bipush hx hb (dec1 1 hd rfl) rfl (k H locs lsA cells slots hR rfl rfl)

set_option maxHeartbeats 1000000 in
theorem st_sipush {n : Int} (hC : ab_Cx p R s m args meth c D dA base mi) (hd : lkC mi pc = some (.sipush n)) (hR : ab_Rl s D dA base mi ls M H locs lsA) {q : Nat × ab_L × List Value × ab_M} (h : stp mi pc (.sipush n) ls st M = some (.inl q)) (hc : cells + mZ q.2.2.2 ≤ R.cells + mZ M) (hs : slots + mS q.2.2.2 ≤ R.slots + mS M) (k : ab_Nx p l e R s m args below meth c Q D dA base mi cells slots M q) : W p l e R s m args below meth c H locs cells slots Q (F0 m pc lsA (st.map (cv base))) := by
  obtain ⟨hx, hb, hr, hml, hown, hts, hK, hlocks, hnm, hfr, hlo⟩ := hC
  have h := qN_inv h
  subst h
  exact lv_sipush hx hb (dec1 2 hd rfl) rfl (k H locs lsA cells slots hR rfl rfl)

set_option maxHeartbeats 1000000 in
theorem st_lconst {n : Fin 2} (hC : ab_Cx p R s m args meth c D dA base mi) (hd : lkC mi pc = some (.lconst n)) (hR : ab_Rl s D dA base mi ls M H locs lsA) {q : Nat × ab_L × List Value × ab_M} (h : stp mi pc (.lconst n) ls st M = some (.inl q)) (hc : cells + mZ q.2.2.2 ≤ R.cells + mZ M) (hs : slots + mS q.2.2.2 ≤ R.slots + mS M) (k : ab_Nx p l e R s m args below meth c Q D dA base mi cells slots M q) : W p l e R s m args below meth c H locs cells slots Q (F0 m pc lsA (st.map (cv base))) := by
  obtain ⟨hx, hb, hr, hml, hown, hts, hK, hlocks, hnm, hfr, hlo⟩ := hC
  have h := qN_inv h
  subst h
  exact lv_lconst hx hb (dec1 0 hd rfl) rfl (k H locs lsA cells slots hR rfl rfl)

set_option maxHeartbeats 1000000 in
theorem st_ldc {i : Nat} (hC : ab_Cx p R s m args meth c D dA base mi) (hd : lkC mi pc = some (.ldc i)) (hR : ab_Rl s D dA base mi ls M H locs lsA) {q : Nat × ab_L × List Value × ab_M} (h : stp mi pc (.ldc i) ls st M = some (.inl q)) (hc : cells + mZ q.2.2.2 ≤ R.cells + mZ M) (hs : slots + mS q.2.2.2 ≤ R.slots + mS M) (k : ab_Nx p l e R s m args below meth c Q D dA base mi cells slots M q) : W p l e R s m args below meth c H locs cells slots Q (F0 m pc lsA (st.map (cv base))) := by
  obtain ⟨hx, hb, hr, hml, hown, hts, hK, hlocks, hnm, hfr, hlo⟩ := hC
  simp only [stp] at h
  split at h
  next v hv =>
    have h := qN_inv h
    subst h
    exact lv_ldc hx hb hown (hts _ (List.mem_cons_of_mem _ (lkK_ok hv))) (dec1 1 hd rfl) (k H locs lsA cells slots hR rfl rfl)
  next => cases h

set_option maxHeartbeats 1000000 in
theorem st_ldc_w {i : Nat} (hC : ab_Cx p R s m args meth c D dA base mi) (hd : lkC mi pc = some (.ldc_w i)) (hR : ab_Rl s D dA base mi ls M H locs lsA) {q : Nat × ab_L × List Value × ab_M} (h : stp mi pc (.ldc_w i) ls st M = some (.inl q)) (hc : cells + mZ q.2.2.2 ≤ R.cells + mZ M) (hs : slots + mS q.2.2.2 ≤ R.slots + mS M) (k : ab_Nx p l e R s m args below meth c Q D dA base mi cells slots M q) : W p l e R s m args below meth c H locs cells slots Q (F0 m pc lsA (st.map (cv base))) := by
  obtain ⟨hx, hb, hr, hml, hown, hts, hK, hlocks, hnm, hfr, hlo⟩ := hC
  simp only [stp] at h
  split at h
  next v hv =>
    have h := qN_inv h
    subst h
    exact lv_ldcw hx hb hown (hts _ (List.mem_cons_of_mem _ (lkK_ok hv))) (dec1 2 hd rfl) (k H locs lsA cells slots hR rfl rfl)
  next => cases h

set_option maxHeartbeats 1000000 in
theorem st_ldc2_w {i : Nat} (hC : ab_Cx p R s m args meth c D dA base mi) (hd : lkC mi pc = some (.ldc2_w i)) (hR : ab_Rl s D dA base mi ls M H locs lsA) {q : Nat × ab_L × List Value × ab_M} (h : stp mi pc (.ldc2_w i) ls st M = some (.inl q)) (hc : cells + mZ q.2.2.2 ≤ R.cells + mZ M) (hs : slots + mS q.2.2.2 ≤ R.slots + mS M) (k : ab_Nx p l e R s m args below meth c Q D dA base mi cells slots M q) : W p l e R s m args below meth c H locs cells slots Q (F0 m pc lsA (st.map (cv base))) := by
  obtain ⟨hx, hb, hr, hml, hown, hts, hK, hlocks, hnm, hfr, hlo⟩ := hC
  simp only [stp] at h
  split at h
  next v hv =>
    have h := qN_inv h
    subst h
    exact lv_ldc2 hx hb hown (hts _ (List.mem_cons_of_mem _ (lkJ_ok hv))) (dec1 2 hd rfl) (k H locs lsA cells slots hR rfl rfl)
  next => cases h

set_option maxHeartbeats 1000000 in
theorem st_iload {i : Nat} (hC : ab_Cx p R s m args meth c D dA base mi) (hd : lkC mi pc = some (.iload i)) (hR : ab_Rl s D dA base mi ls M H locs lsA) {q : Nat × ab_L × List Value × ab_M} (h : stp mi pc (.iload i) ls st M = some (.inl q)) (hc : cells + mZ q.2.2.2 ≤ R.cells + mZ M) (hs : slots + mS q.2.2.2 ≤ R.slots + mS M) (k : ab_Nx p l e R s m args below meth c Q D dA base mi cells slots M q) : W p l e R s m args below meth c H locs cells slots Q (F0 m pc lsA (st.map (cv base))) := by
  obtain ⟨hx, hb, hr, hml, hown, hts, hK, hlocks, hnm, hfr, hlo⟩ := hC
  obtain ⟨x, hv, h⟩ := lvI_inv h
  have h := qN_inv h
  subst h
  exact lv_iload hx hb (dec1 1 hd rfl) (lg_asc hR.1 hv) (k H locs lsA cells slots hR rfl rfl)

set_option maxHeartbeats 1000000 in
theorem st_iload_n {i : Fin 4} (hC : ab_Cx p R s m args meth c D dA base mi) (hd : lkC mi pc = some (.iload_n i)) (hR : ab_Rl s D dA base mi ls M H locs lsA) {q : Nat × ab_L × List Value × ab_M} (h : stp mi pc (.iload_n i) ls st M = some (.inl q)) (hc : cells + mZ q.2.2.2 ≤ R.cells + mZ M) (hs : slots + mS q.2.2.2 ≤ R.slots + mS M) (k : ab_Nx p l e R s m args below meth c Q D dA base mi cells slots M q) : W p l e R s m args below meth c H locs cells slots Q (F0 m pc lsA (st.map (cv base))) := by
  obtain ⟨hx, hb, hr, hml, hown, hts, hK, hlocks, hnm, hfr, hlo⟩ := hC
  obtain ⟨x, hv, h⟩ := lvI_inv h
  have h := qN_inv h
  subst h
  exact lv_iload_n hx hb (dec1 0 hd rfl) rfl (lg_asc hR.1 hv) (k H locs lsA cells slots hR rfl rfl)

set_option maxHeartbeats 1000000 in
theorem st_lload {i : Nat} (hC : ab_Cx p R s m args meth c D dA base mi) (hd : lkC mi pc = some (.lload i)) (hR : ab_Rl s D dA base mi ls M H locs lsA) {q : Nat × ab_L × List Value × ab_M} (h : stp mi pc (.lload i) ls st M = some (.inl q)) (hc : cells + mZ q.2.2.2 ≤ R.cells + mZ M) (hs : slots + mS q.2.2.2 ≤ R.slots + mS M) (k : ab_Nx p l e R s m args below meth c Q D dA base mi cells slots M q) : W p l e R s m args below meth c H locs cells slots Q (F0 m pc lsA (st.map (cv base))) := by
  obtain ⟨hx, hb, hr, hml, hown, hts, hK, hlocks, hnm, hfr, hlo⟩ := hC
  obtain ⟨x, hv, h⟩ := lvJ_inv h
  have h := qN_inv h
  subst h
  exact lv_lload hx hb (dec1 1 hd rfl) (lg_asc hR.1 hv) (k H locs lsA cells slots hR rfl rfl)

set_option maxHeartbeats 1000000 in
theorem st_lload_n {i : Fin 4} (hC : ab_Cx p R s m args meth c D dA base mi) (hd : lkC mi pc = some (.lload_n i)) (hR : ab_Rl s D dA base mi ls M H locs lsA) {q : Nat × ab_L × List Value × ab_M} (h : stp mi pc (.lload_n i) ls st M = some (.inl q)) (hc : cells + mZ q.2.2.2 ≤ R.cells + mZ M) (hs : slots + mS q.2.2.2 ≤ R.slots + mS M) (k : ab_Nx p l e R s m args below meth c Q D dA base mi cells slots M q) : W p l e R s m args below meth c H locs cells slots Q (F0 m pc lsA (st.map (cv base))) := by
  obtain ⟨hx, hb, hr, hml, hown, hts, hK, hlocks, hnm, hfr, hlo⟩ := hC
  obtain ⟨x, hv, h⟩ := lvJ_inv h
  have h := qN_inv h
  subst h
  exact lv_lload_n hx hb (dec1 0 hd rfl) rfl (lg_asc hR.1 hv) (k H locs lsA cells slots hR rfl rfl)

set_option maxHeartbeats 1000000 in
theorem st_aload {i : Nat} (hC : ab_Cx p R s m args meth c D dA base mi) (hd : lkC mi pc = some (.aload i)) (hR : ab_Rl s D dA base mi ls M H locs lsA) {q : Nat × ab_L × List Value × ab_M} (h : stp mi pc (.aload i) ls st M = some (.inl q)) (hc : cells + mZ q.2.2.2 ≤ R.cells + mZ M) (hs : slots + mS q.2.2.2 ≤ R.slots + mS M) (k : ab_Nx p l e R s m args below meth c Q D dA base mi cells slots M q) : W p l e R s m args below meth c H locs cells slots Q (F0 m pc lsA (st.map (cv base))) := by
  obtain ⟨hx, hb, hr, hml, hown, hts, hK, hlocks, hnm, hfr, hlo⟩ := hC
  obtain ⟨x, hv, h⟩ := lvA_inv h
  have h := qN_inv h
  subst h
  exact lv_aload hx hb (dec1 1 hd rfl) (lg_asc hR.1 hv) (k H locs lsA cells slots hR rfl rfl)

set_option maxHeartbeats 1000000 in
theorem st_aload_n {i : Fin 4} (hC : ab_Cx p R s m args meth c D dA base mi) (hd : lkC mi pc = some (.aload_n i)) (hR : ab_Rl s D dA base mi ls M H locs lsA) {q : Nat × ab_L × List Value × ab_M} (h : stp mi pc (.aload_n i) ls st M = some (.inl q)) (hc : cells + mZ q.2.2.2 ≤ R.cells + mZ M) (hs : slots + mS q.2.2.2 ≤ R.slots + mS M) (k : ab_Nx p l e R s m args below meth c Q D dA base mi cells slots M q) : W p l e R s m args below meth c H locs cells slots Q (F0 m pc lsA (st.map (cv base))) := by
  obtain ⟨hx, hb, hr, hml, hown, hts, hK, hlocks, hnm, hfr, hlo⟩ := hC
  obtain ⟨x, hv, h⟩ := lvA_inv h
  have h := qN_inv h
  subst h
  exact lv_aload_n hx hb (dec1 0 hd rfl) rfl (lg_asc hR.1 hv) (k H locs lsA cells slots hR rfl rfl)

set_option maxHeartbeats 1000000 in
theorem st_istore {i : Nat} (hC : ab_Cx p R s m args meth c D dA base mi) (hd : lkC mi pc = some (.istore i)) (hR : ab_Rl s D dA base mi ls M H locs lsA) {q : Nat × ab_L × List Value × ab_M} (h : stp mi pc (.istore i) ls st M = some (.inl q)) (hc : cells + mZ q.2.2.2 ≤ R.cells + mZ M) (hs : slots + mS q.2.2.2 ≤ R.slots + mS M) (k : ab_Nx p l e R s m args below meth c Q D dA base mi cells slots M q) : W p l e R s m args below meth c H locs cells slots Q (F0 m pc lsA (st.map (cv base))) := by
  obtain ⟨hx, hb, hr, hml, hown, hts, hK, hlocks, hnm, hfr, hlo⟩ := hC
  obtain ⟨x, r, e0, h⟩ := qI_inv h
  subst e0
  obtain ⟨l1, hv, h⟩ := qL_inv h
  have h := qN_inv h
  subst h
  have hlt := (ls1_spec _ _ _ _ hv).1
  have hle := (ls1_spec _ _ _ _ hv).2.1
  have h0 := hR.2.1
  refine lv_istore hx hb (dec1 1 hd rfl) hR.1 (by omega) rfl (fun ls2 hl2 => ?_)
  exact k H locs ls2 cells slots ⟨lv_mono hl2 (asc_set1 hv), hle.trans h0, hR.2.2⟩ rfl rfl

set_option maxHeartbeats 1000000 in
theorem st_istore_n {i : Fin 4} (hC : ab_Cx p R s m args meth c D dA base mi) (hd : lkC mi pc = some (.istore_n i)) (hR : ab_Rl s D dA base mi ls M H locs lsA) {q : Nat × ab_L × List Value × ab_M} (h : stp mi pc (.istore_n i) ls st M = some (.inl q)) (hc : cells + mZ q.2.2.2 ≤ R.cells + mZ M) (hs : slots + mS q.2.2.2 ≤ R.slots + mS M) (k : ab_Nx p l e R s m args below meth c Q D dA base mi cells slots M q) : W p l e R s m args below meth c H locs cells slots Q (F0 m pc lsA (st.map (cv base))) := by
  obtain ⟨hx, hb, hr, hml, hown, hts, hK, hlocks, hnm, hfr, hlo⟩ := hC
  obtain ⟨x, r, e0, h⟩ := qI_inv h
  subst e0
  obtain ⟨l1, hv, h⟩ := qL_inv h
  have h := qN_inv h
  subst h
  have hlt := (ls1_spec _ _ _ _ hv).1
  have hle := (ls1_spec _ _ _ _ hv).2.1
  have h0 := hR.2.1
  refine lv_istore_n hx hb (dec1 0 hd rfl) rfl hR.1 (by omega) rfl (fun ls2 hl2 => ?_)
  exact k H locs ls2 cells slots ⟨lv_mono hl2 (asc_set1 hv), hle.trans h0, hR.2.2⟩ rfl rfl

set_option maxHeartbeats 1000000 in
theorem st_lstore {i : Nat} (hC : ab_Cx p R s m args meth c D dA base mi) (hd : lkC mi pc = some (.lstore i)) (hR : ab_Rl s D dA base mi ls M H locs lsA) {q : Nat × ab_L × List Value × ab_M} (h : stp mi pc (.lstore i) ls st M = some (.inl q)) (hc : cells + mZ q.2.2.2 ≤ R.cells + mZ M) (hs : slots + mS q.2.2.2 ≤ R.slots + mS M) (k : ab_Nx p l e R s m args below meth c Q D dA base mi cells slots M q) : W p l e R s m args below meth c H locs cells slots Q (F0 m pc lsA (st.map (cv base))) := by
  obtain ⟨hx, hb, hr, hml, hown, hts, hK, hlocks, hnm, hfr, hlo⟩ := hC
  simp only [stp] at h
  split at h
  next x r =>
    obtain ⟨l1, hv, h⟩ := qL_inv h
    have h := qN_inv h
    subst h
    have hlt := (ls2_len hv).1
    have hle := (ls2_len hv).2
    have h0 := hR.2.1
    refine lv_lstore hx hb (dec1 1 hd rfl) hR.1 (by omega) rfl (fun ls2 hl2 => ?_)
    exact k H locs ls2 cells slots ⟨lv_mono hl2 (asc_set2 hv), hle.trans h0, hR.2.2⟩ rfl rfl
  next => cases h

set_option maxHeartbeats 1000000 in
theorem st_lstore_n {i : Fin 4} (hC : ab_Cx p R s m args meth c D dA base mi) (hd : lkC mi pc = some (.lstore_n i)) (hR : ab_Rl s D dA base mi ls M H locs lsA) {q : Nat × ab_L × List Value × ab_M} (h : stp mi pc (.lstore_n i) ls st M = some (.inl q)) (hc : cells + mZ q.2.2.2 ≤ R.cells + mZ M) (hs : slots + mS q.2.2.2 ≤ R.slots + mS M) (k : ab_Nx p l e R s m args below meth c Q D dA base mi cells slots M q) : W p l e R s m args below meth c H locs cells slots Q (F0 m pc lsA (st.map (cv base))) := by
  obtain ⟨hx, hb, hr, hml, hown, hts, hK, hlocks, hnm, hfr, hlo⟩ := hC
  simp only [stp] at h
  split at h
  next x r =>
    obtain ⟨l1, hv, h⟩ := qL_inv h
    have h := qN_inv h
    subst h
    have hlt := (ls2_len hv).1
    have hle := (ls2_len hv).2
    have h0 := hR.2.1
    refine lv_lstore_n hx hb (dec1 0 hd rfl) rfl hR.1 (by omega) rfl (fun ls2 hl2 => ?_)
    exact k H locs ls2 cells slots ⟨lv_mono hl2 (asc_set2 hv), hle.trans h0, hR.2.2⟩ rfl rfl
  next => cases h

set_option maxHeartbeats 1000000 in
theorem st_astore {i : Nat} (hC : ab_Cx p R s m args meth c D dA base mi) (hd : lkC mi pc = some (.astore i)) (hR : ab_Rl s D dA base mi ls M H locs lsA) {q : Nat × ab_L × List Value × ab_M} (h : stp mi pc (.astore i) ls st M = some (.inl q)) (hc : cells + mZ q.2.2.2 ≤ R.cells + mZ M) (hs : slots + mS q.2.2.2 ≤ R.slots + mS M) (k : ab_Nx p l e R s m args below meth c Q D dA base mi cells slots M q) : W p l e R s m args below meth c H locs cells slots Q (F0 m pc lsA (st.map (cv base))) := by
  obtain ⟨hx, hb, hr, hml, hown, hts, hK, hlocks, hnm, hfr, hlo⟩ := hC
  simp only [stp] at h
  split at h
  next x r =>
    obtain ⟨l1, hv, h⟩ := qL_inv h
    have h := qN_inv h
    subst h
    have hlt := (ls1_spec _ _ _ _ hv).1
    have hle := (ls1_spec _ _ _ _ hv).2.1
    have h0 := hR.2.1
    refine lv_astore hx hb (dec1 1 hd rfl) hR.1 (by omega) rfl (fun ls2 hl2 => ?_)
    exact k H locs ls2 cells slots ⟨lv_mono hl2 (asc_set1 hv), hle.trans h0, hR.2.2⟩ rfl rfl
  next => cases h

set_option maxHeartbeats 1000000 in
theorem st_astore_n {i : Fin 4} (hC : ab_Cx p R s m args meth c D dA base mi) (hd : lkC mi pc = some (.astore_n i)) (hR : ab_Rl s D dA base mi ls M H locs lsA) {q : Nat × ab_L × List Value × ab_M} (h : stp mi pc (.astore_n i) ls st M = some (.inl q)) (hc : cells + mZ q.2.2.2 ≤ R.cells + mZ M) (hs : slots + mS q.2.2.2 ≤ R.slots + mS M) (k : ab_Nx p l e R s m args below meth c Q D dA base mi cells slots M q) : W p l e R s m args below meth c H locs cells slots Q (F0 m pc lsA (st.map (cv base))) := by
  obtain ⟨hx, hb, hr, hml, hown, hts, hK, hlocks, hnm, hfr, hlo⟩ := hC
  simp only [stp] at h
  split at h
  next x r =>
    obtain ⟨l1, hv, h⟩ := qL_inv h
    have h := qN_inv h
    subst h
    have hlt := (ls1_spec _ _ _ _ hv).1
    have hle := (ls1_spec _ _ _ _ hv).2.1
    have h0 := hR.2.1
    refine lv_astore_n hx hb (dec1 0 hd rfl) rfl hR.1 (by omega) rfl (fun ls2 hl2 => ?_)
    exact k H locs ls2 cells slots ⟨lv_mono hl2 (asc_set1 hv), hle.trans h0, hR.2.2⟩ rfl rfl
  next => cases h

set_option maxHeartbeats 1000000 in
theorem st_iinc {i : Nat} {n : Int} (hC : ab_Cx p R s m args meth c D dA base mi) (hd : lkC mi pc = some (.iinc i n)) (hR : ab_Rl s D dA base mi ls M H locs lsA) {q : Nat × ab_L × List Value × ab_M} (h : stp mi pc (.iinc i n) ls st M = some (.inl q)) (hc : cells + mZ q.2.2.2 ≤ R.cells + mZ M) (hs : slots + mS q.2.2.2 ≤ R.slots + mS M) (k : ab_Nx p l e R s m args below meth c Q D dA base mi cells slots M q) : W p l e R s m args below meth c H locs cells slots Q (F0 m pc lsA (st.map (cv base))) := by
  obtain ⟨hx, hb, hr, hml, hown, hts, hK, hlocks, hnm, hfr, hlo⟩ := hC
  obtain ⟨x, hv0, h⟩ := lvI_inv h
  obtain ⟨l1, hv, h⟩ := qL_inv h
  have h := qN_inv h
  subst h
  have hlt := (ls1_spec _ _ _ _ hv).1
  have hle := (ls1_spec _ _ _ _ hv).2.1
  have h0 := hR.2.1
  obtain ⟨kx, hkx⟩ := List.getElem?_of_mem ((mem_asc (base := base) ls 0 (i, .int x)).mpr ⟨i, .int x, by simp, hv0, rfl⟩)
  refine lv_iinc (k := kx) hx hb (dec1 2 hd rfl) hR.1 hkx rfl (by omega) rfl (fun ls2 hl2 => ?_)
  exact k H locs ls2 cells slots ⟨lv_mono hl2 (asc_set1 hv), hle.trans h0, hR.2.2⟩ rfl rfl

set_option maxHeartbeats 1000000 in
theorem st_iadd (hC : ab_Cx p R s m args meth c D dA base mi) (hd : lkC mi pc = some (.iadd)) (hR : ab_Rl s D dA base mi ls M H locs lsA) {q : Nat × ab_L × List Value × ab_M} (h : stp mi pc (.iadd) ls st M = some (.inl q)) (hc : cells + mZ q.2.2.2 ≤ R.cells + mZ M) (hs : slots + mS q.2.2.2 ≤ R.slots + mS M) (k : ab_Nx p l e R s m args below meth c Q D dA base mi cells slots M q) : W p l e R s m args below meth c H locs cells slots Q (F0 m pc lsA (st.map (cv base))) := by
  obtain ⟨hx, hb, hr, hml, hown, hts, hK, hlocks, hnm, hfr, hlo⟩ := hC
  obtain ⟨x, y, r, e0, h⟩ := qII_inv h
  subst e0
  have h := qN_inv h
  subst h
  exact lv_iadd hx hb (dec1 0 hd rfl) (k H locs lsA cells slots hR rfl rfl)

set_option maxHeartbeats 1000000 in
theorem st_isub (hC : ab_Cx p R s m args meth c D dA base mi) (hd : lkC mi pc = some (.isub)) (hR : ab_Rl s D dA base mi ls M H locs lsA) {q : Nat × ab_L × List Value × ab_M} (h : stp mi pc (.isub) ls st M = some (.inl q)) (hc : cells + mZ q.2.2.2 ≤ R.cells + mZ M) (hs : slots + mS q.2.2.2 ≤ R.slots + mS M) (k : ab_Nx p l e R s m args below meth c Q D dA base mi cells slots M q) : W p l e R s m args below meth c H locs cells slots Q (F0 m pc lsA (st.map (cv base))) := by
  obtain ⟨hx, hb, hr, hml, hown, hts, hK, hlocks, hnm, hfr, hlo⟩ := hC
  obtain ⟨x, y, r, e0, h⟩ := qII_inv h
  subst e0
  have h := qN_inv h
  subst h
  exact lv_isub hx hb (dec1 0 hd rfl) (k H locs lsA cells slots hR rfl rfl)

set_option maxHeartbeats 1000000 in
theorem st_imul (hC : ab_Cx p R s m args meth c D dA base mi) (hd : lkC mi pc = some (.imul)) (hR : ab_Rl s D dA base mi ls M H locs lsA) {q : Nat × ab_L × List Value × ab_M} (h : stp mi pc (.imul) ls st M = some (.inl q)) (hc : cells + mZ q.2.2.2 ≤ R.cells + mZ M) (hs : slots + mS q.2.2.2 ≤ R.slots + mS M) (k : ab_Nx p l e R s m args below meth c Q D dA base mi cells slots M q) : W p l e R s m args below meth c H locs cells slots Q (F0 m pc lsA (st.map (cv base))) := by
  obtain ⟨hx, hb, hr, hml, hown, hts, hK, hlocks, hnm, hfr, hlo⟩ := hC
  obtain ⟨x, y, r, e0, h⟩ := qII_inv h
  subst e0
  have h := qN_inv h
  subst h
  exact lv_imul hx hb (dec1 0 hd rfl) (k H locs lsA cells slots hR rfl rfl)

set_option maxHeartbeats 1000000 in
theorem st_iand (hC : ab_Cx p R s m args meth c D dA base mi) (hd : lkC mi pc = some (.iand)) (hR : ab_Rl s D dA base mi ls M H locs lsA) {q : Nat × ab_L × List Value × ab_M} (h : stp mi pc (.iand) ls st M = some (.inl q)) (hc : cells + mZ q.2.2.2 ≤ R.cells + mZ M) (hs : slots + mS q.2.2.2 ≤ R.slots + mS M) (k : ab_Nx p l e R s m args below meth c Q D dA base mi cells slots M q) : W p l e R s m args below meth c H locs cells slots Q (F0 m pc lsA (st.map (cv base))) := by
  obtain ⟨hx, hb, hr, hml, hown, hts, hK, hlocks, hnm, hfr, hlo⟩ := hC
  obtain ⟨x, y, r, e0, h⟩ := qII_inv h
  subst e0
  have h := qN_inv h
  subst h
  exact lv_iand hx hb (dec1 0 hd rfl) (k H locs lsA cells slots hR rfl rfl)

set_option maxHeartbeats 1000000 in
theorem st_ior (hC : ab_Cx p R s m args meth c D dA base mi) (hd : lkC mi pc = some (.ior)) (hR : ab_Rl s D dA base mi ls M H locs lsA) {q : Nat × ab_L × List Value × ab_M} (h : stp mi pc (.ior) ls st M = some (.inl q)) (hc : cells + mZ q.2.2.2 ≤ R.cells + mZ M) (hs : slots + mS q.2.2.2 ≤ R.slots + mS M) (k : ab_Nx p l e R s m args below meth c Q D dA base mi cells slots M q) : W p l e R s m args below meth c H locs cells slots Q (F0 m pc lsA (st.map (cv base))) := by
  obtain ⟨hx, hb, hr, hml, hown, hts, hK, hlocks, hnm, hfr, hlo⟩ := hC
  obtain ⟨x, y, r, e0, h⟩ := qII_inv h
  subst e0
  have h := qN_inv h
  subst h
  exact lv_ior hx hb (dec1 0 hd rfl) (k H locs lsA cells slots hR rfl rfl)

set_option maxHeartbeats 1000000 in
theorem st_ixor (hC : ab_Cx p R s m args meth c D dA base mi) (hd : lkC mi pc = some (.ixor)) (hR : ab_Rl s D dA base mi ls M H locs lsA) {q : Nat × ab_L × List Value × ab_M} (h : stp mi pc (.ixor) ls st M = some (.inl q)) (hc : cells + mZ q.2.2.2 ≤ R.cells + mZ M) (hs : slots + mS q.2.2.2 ≤ R.slots + mS M) (k : ab_Nx p l e R s m args below meth c Q D dA base mi cells slots M q) : W p l e R s m args below meth c H locs cells slots Q (F0 m pc lsA (st.map (cv base))) := by
  obtain ⟨hx, hb, hr, hml, hown, hts, hK, hlocks, hnm, hfr, hlo⟩ := hC
  obtain ⟨x, y, r, e0, h⟩ := qII_inv h
  subst e0
  have h := qN_inv h
  subst h
  exact lv_ixor hx hb (dec1 0 hd rfl) (k H locs lsA cells slots hR rfl rfl)

set_option maxHeartbeats 1000000 in
theorem st_ishl (hC : ab_Cx p R s m args meth c D dA base mi) (hd : lkC mi pc = some (.ishl)) (hR : ab_Rl s D dA base mi ls M H locs lsA) {q : Nat × ab_L × List Value × ab_M} (h : stp mi pc (.ishl) ls st M = some (.inl q)) (hc : cells + mZ q.2.2.2 ≤ R.cells + mZ M) (hs : slots + mS q.2.2.2 ≤ R.slots + mS M) (k : ab_Nx p l e R s m args below meth c Q D dA base mi cells slots M q) : W p l e R s m args below meth c H locs cells slots Q (F0 m pc lsA (st.map (cv base))) := by
  obtain ⟨hx, hb, hr, hml, hown, hts, hK, hlocks, hnm, hfr, hlo⟩ := hC
  obtain ⟨x, y, r, e0, h⟩ := qII_inv h
  subst e0
  have h := qN_inv h
  subst h
  exact lv_ishl hx hb (dec1 0 hd rfl) (k H locs lsA cells slots hR rfl rfl)

set_option maxHeartbeats 1000000 in
theorem st_ishr (hC : ab_Cx p R s m args meth c D dA base mi) (hd : lkC mi pc = some (.ishr)) (hR : ab_Rl s D dA base mi ls M H locs lsA) {q : Nat × ab_L × List Value × ab_M} (h : stp mi pc (.ishr) ls st M = some (.inl q)) (hc : cells + mZ q.2.2.2 ≤ R.cells + mZ M) (hs : slots + mS q.2.2.2 ≤ R.slots + mS M) (k : ab_Nx p l e R s m args below meth c Q D dA base mi cells slots M q) : W p l e R s m args below meth c H locs cells slots Q (F0 m pc lsA (st.map (cv base))) := by
  obtain ⟨hx, hb, hr, hml, hown, hts, hK, hlocks, hnm, hfr, hlo⟩ := hC
  obtain ⟨x, y, r, e0, h⟩ := qII_inv h
  subst e0
  have h := qN_inv h
  subst h
  exact lv_ishr hx hb (dec1 0 hd rfl) (k H locs lsA cells slots hR rfl rfl)

set_option maxHeartbeats 1000000 in
theorem st_idiv (hC : ab_Cx p R s m args meth c D dA base mi) (hd : lkC mi pc = some (.idiv)) (hR : ab_Rl s D dA base mi ls M H locs lsA) {q : Nat × ab_L × List Value × ab_M} (h : stp mi pc (.idiv) ls st M = some (.inl q)) (hc : cells + mZ q.2.2.2 ≤ R.cells + mZ M) (hs : slots + mS q.2.2.2 ≤ R.slots + mS M) (k : ab_Nx p l e R s m args below meth c Q D dA base mi cells slots M q) : W p l e R s m args below meth c H locs cells slots Q (F0 m pc lsA (st.map (cv base))) := by
  obtain ⟨hx, hb, hr, hml, hown, hts, hK, hlocks, hnm, hfr, hlo⟩ := hC
  obtain ⟨x, y, r, e0, h⟩ := qII_inv h
  subst e0
  obtain ⟨h0, h⟩ := ifn_inv h
  have h := qN_inv h
  subst h
  exact lv_idiv hx hb (dec1 0 hd rfl) h0 (k H locs lsA cells slots hR rfl rfl)

set_option maxHeartbeats 1000000 in
theorem st_irem (hC : ab_Cx p R s m args meth c D dA base mi) (hd : lkC mi pc = some (.irem)) (hR : ab_Rl s D dA base mi ls M H locs lsA) {q : Nat × ab_L × List Value × ab_M} (h : stp mi pc (.irem) ls st M = some (.inl q)) (hc : cells + mZ q.2.2.2 ≤ R.cells + mZ M) (hs : slots + mS q.2.2.2 ≤ R.slots + mS M) (k : ab_Nx p l e R s m args below meth c Q D dA base mi cells slots M q) : W p l e R s m args below meth c H locs cells slots Q (F0 m pc lsA (st.map (cv base))) := by
  obtain ⟨hx, hb, hr, hml, hown, hts, hK, hlocks, hnm, hfr, hlo⟩ := hC
  obtain ⟨x, y, r, e0, h⟩ := qII_inv h
  subst e0
  obtain ⟨h0, h⟩ := ifn_inv h
  have h := qN_inv h
  subst h
  exact lv_irem hx hb (dec1 0 hd rfl) h0 (k H locs lsA cells slots hR rfl rfl)

set_option maxHeartbeats 1000000 in
theorem st_iushr (hC : ab_Cx p R s m args meth c D dA base mi) (hd : lkC mi pc = some (.iushr)) (hR : ab_Rl s D dA base mi ls M H locs lsA) {q : Nat × ab_L × List Value × ab_M} (h : stp mi pc (.iushr) ls st M = some (.inl q)) (hc : cells + mZ q.2.2.2 ≤ R.cells + mZ M) (hs : slots + mS q.2.2.2 ≤ R.slots + mS M) (k : ab_Nx p l e R s m args below meth c Q D dA base mi cells slots M q) : W p l e R s m args below meth c H locs cells slots Q (F0 m pc lsA (st.map (cv base))) := by
  obtain ⟨hx, hb, hr, hml, hown, hts, hK, hlocks, hnm, hfr, hlo⟩ := hC
  obtain ⟨x, y, r, e0, h⟩ := qII_inv h
  subst e0
  have h := qN_inv h
  subst h
  exact lv_iushr hx hb (dec1 0 hd rfl) rfl (k H locs lsA cells slots hR rfl rfl)

set_option maxHeartbeats 1000000 in
theorem st_ineg (hC : ab_Cx p R s m args meth c D dA base mi) (hd : lkC mi pc = some (.ineg)) (hR : ab_Rl s D dA base mi ls M H locs lsA) {q : Nat × ab_L × List Value × ab_M} (h : stp mi pc (.ineg) ls st M = some (.inl q)) (hc : cells + mZ q.2.2.2 ≤ R.cells + mZ M) (hs : slots + mS q.2.2.2 ≤ R.slots + mS M) (k : ab_Nx p l e R s m args below meth c Q D dA base mi cells slots M q) : W p l e R s m args below meth c H locs cells slots Q (F0 m pc lsA (st.map (cv base))) := by
  obtain ⟨hx, hb, hr, hml, hown, hts, hK, hlocks, hnm, hfr, hlo⟩ := hC
  obtain ⟨x, r, e0, h⟩ := qI_inv h
  subst e0
  have h := qN_inv h
  subst h
  exact lv_ineg hx hb (dec1 0 hd rfl) (k H locs lsA cells slots hR rfl rfl)

set_option maxHeartbeats 1000000 in
theorem st_ladd (hC : ab_Cx p R s m args meth c D dA base mi) (hd : lkC mi pc = some (.ladd)) (hR : ab_Rl s D dA base mi ls M H locs lsA) {q : Nat × ab_L × List Value × ab_M} (h : stp mi pc (.ladd) ls st M = some (.inl q)) (hc : cells + mZ q.2.2.2 ≤ R.cells + mZ M) (hs : slots + mS q.2.2.2 ≤ R.slots + mS M) (k : ab_Nx p l e R s m args below meth c Q D dA base mi cells slots M q) : W p l e R s m args below meth c H locs cells slots Q (F0 m pc lsA (st.map (cv base))) := by
  obtain ⟨hx, hb, hr, hml, hown, hts, hK, hlocks, hnm, hfr, hlo⟩ := hC
  obtain ⟨x, y, r, e0, h⟩ := qJJ_inv h
  subst e0
  have h := qN_inv h
  subst h
  exact lv_ladd hx hb (dec1 0 hd rfl) (k H locs lsA cells slots hR rfl rfl)

set_option maxHeartbeats 1000000 in
theorem st_lsub (hC : ab_Cx p R s m args meth c D dA base mi) (hd : lkC mi pc = some (.lsub)) (hR : ab_Rl s D dA base mi ls M H locs lsA) {q : Nat × ab_L × List Value × ab_M} (h : stp mi pc (.lsub) ls st M = some (.inl q)) (hc : cells + mZ q.2.2.2 ≤ R.cells + mZ M) (hs : slots + mS q.2.2.2 ≤ R.slots + mS M) (k : ab_Nx p l e R s m args below meth c Q D dA base mi cells slots M q) : W p l e R s m args below meth c H locs cells slots Q (F0 m pc lsA (st.map (cv base))) := by
  obtain ⟨hx, hb, hr, hml, hown, hts, hK, hlocks, hnm, hfr, hlo⟩ := hC
  obtain ⟨x, y, r, e0, h⟩ := qJJ_inv h
  subst e0
  have h := qN_inv h
  subst h
  exact lv_lsub hx hb (dec1 0 hd rfl) (k H locs lsA cells slots hR rfl rfl)

set_option maxHeartbeats 1000000 in
theorem st_lmul (hC : ab_Cx p R s m args meth c D dA base mi) (hd : lkC mi pc = some (.lmul)) (hR : ab_Rl s D dA base mi ls M H locs lsA) {q : Nat × ab_L × List Value × ab_M} (h : stp mi pc (.lmul) ls st M = some (.inl q)) (hc : cells + mZ q.2.2.2 ≤ R.cells + mZ M) (hs : slots + mS q.2.2.2 ≤ R.slots + mS M) (k : ab_Nx p l e R s m args below meth c Q D dA base mi cells slots M q) : W p l e R s m args below meth c H locs cells slots Q (F0 m pc lsA (st.map (cv base))) := by
  obtain ⟨hx, hb, hr, hml, hown, hts, hK, hlocks, hnm, hfr, hlo⟩ := hC
  obtain ⟨x, y, r, e0, h⟩ := qJJ_inv h
  subst e0
  have h := qN_inv h
  subst h
  exact lv_lmul hx hb (dec1 0 hd rfl) (k H locs lsA cells slots hR rfl rfl)

set_option maxHeartbeats 1000000 in
theorem st_ldiv (hC : ab_Cx p R s m args meth c D dA base mi) (hd : lkC mi pc = some (.ldiv)) (hR : ab_Rl s D dA base mi ls M H locs lsA) {q : Nat × ab_L × List Value × ab_M} (h : stp mi pc (.ldiv) ls st M = some (.inl q)) (hc : cells + mZ q.2.2.2 ≤ R.cells + mZ M) (hs : slots + mS q.2.2.2 ≤ R.slots + mS M) (k : ab_Nx p l e R s m args below meth c Q D dA base mi cells slots M q) : W p l e R s m args below meth c H locs cells slots Q (F0 m pc lsA (st.map (cv base))) := by
  obtain ⟨hx, hb, hr, hml, hown, hts, hK, hlocks, hnm, hfr, hlo⟩ := hC
  obtain ⟨x, y, r, e0, h⟩ := qJJ_inv h
  subst e0
  obtain ⟨h0, h⟩ := ifn_inv h
  have h := qN_inv h
  subst h
  exact lv_ldiv hx hb (dec1 0 hd rfl) h0 (k H locs lsA cells slots hR rfl rfl)

set_option maxHeartbeats 1000000 in
theorem st_lrem (hC : ab_Cx p R s m args meth c D dA base mi) (hd : lkC mi pc = some (.lrem)) (hR : ab_Rl s D dA base mi ls M H locs lsA) {q : Nat × ab_L × List Value × ab_M} (h : stp mi pc (.lrem) ls st M = some (.inl q)) (hc : cells + mZ q.2.2.2 ≤ R.cells + mZ M) (hs : slots + mS q.2.2.2 ≤ R.slots + mS M) (k : ab_Nx p l e R s m args below meth c Q D dA base mi cells slots M q) : W p l e R s m args below meth c H locs cells slots Q (F0 m pc lsA (st.map (cv base))) := by
  obtain ⟨hx, hb, hr, hml, hown, hts, hK, hlocks, hnm, hfr, hlo⟩ := hC
  obtain ⟨x, y, r, e0, h⟩ := qJJ_inv h
  subst e0
  obtain ⟨h0, h⟩ := ifn_inv h
  have h := qN_inv h
  subst h
  exact lv_lrem hx hb (dec1 0 hd rfl) h0 (k H locs lsA cells slots hR rfl rfl)

set_option maxHeartbeats 1000000 in
theorem st_lcmp (hC : ab_Cx p R s m args meth c D dA base mi) (hd : lkC mi pc = some (.lcmp)) (hR : ab_Rl s D dA base mi ls M H locs lsA) {q : Nat × ab_L × List Value × ab_M} (h : stp mi pc (.lcmp) ls st M = some (.inl q)) (hc : cells + mZ q.2.2.2 ≤ R.cells + mZ M) (hs : slots + mS q.2.2.2 ≤ R.slots + mS M) (k : ab_Nx p l e R s m args below meth c Q D dA base mi cells slots M q) : W p l e R s m args below meth c H locs cells slots Q (F0 m pc lsA (st.map (cv base))) := by
  obtain ⟨hx, hb, hr, hml, hown, hts, hK, hlocks, hnm, hfr, hlo⟩ := hC
  obtain ⟨x, y, r, e0, h⟩ := qJJ_inv h
  subst e0
  have h := qN_inv h
  subst h
  exact W.lcmp hx hb (dec1 0 hd rfl) (k H locs lsA cells slots hR rfl rfl)

set_option maxHeartbeats 1000000 in
theorem st_i2l (hC : ab_Cx p R s m args meth c D dA base mi) (hd : lkC mi pc = some (.i2l)) (hR : ab_Rl s D dA base mi ls M H locs lsA) {q : Nat × ab_L × List Value × ab_M} (h : stp mi pc (.i2l) ls st M = some (.inl q)) (hc : cells + mZ q.2.2.2 ≤ R.cells + mZ M) (hs : slots + mS q.2.2.2 ≤ R.slots + mS M) (k : ab_Nx p l e R s m args below meth c Q D dA base mi cells slots M q) : W p l e R s m args below meth c H locs cells slots Q (F0 m pc lsA (st.map (cv base))) := by
  obtain ⟨hx, hb, hr, hml, hown, hts, hK, hlocks, hnm, hfr, hlo⟩ := hC
  obtain ⟨x, r, e0, h⟩ := qI_inv h
  subst e0
  have h := qN_inv h
  subst h
  exact lv_i2l hx hb (dec1 0 hd rfl) rfl (k H locs lsA cells slots hR rfl rfl)

set_option maxHeartbeats 1000000 in
theorem st_l2i (hC : ab_Cx p R s m args meth c D dA base mi) (hd : lkC mi pc = some (.l2i)) (hR : ab_Rl s D dA base mi ls M H locs lsA) {q : Nat × ab_L × List Value × ab_M} (h : stp mi pc (.l2i) ls st M = some (.inl q)) (hc : cells + mZ q.2.2.2 ≤ R.cells + mZ M) (hs : slots + mS q.2.2.2 ≤ R.slots + mS M) (k : ab_Nx p l e R s m args below meth c Q D dA base mi cells slots M q) : W p l e R s m args below meth c H locs cells slots Q (F0 m pc lsA (st.map (cv base))) := by
  obtain ⟨hx, hb, hr, hml, hown, hts, hK, hlocks, hnm, hfr, hlo⟩ := hC
  simp only [stp] at h
  split at h
  next x r =>
    have h := qN_inv h
    subst h
    exact lv_l2i hx hb (dec1 0 hd rfl) rfl (k H locs lsA cells slots hR rfl rfl)
  next => cases h

set_option maxHeartbeats 1000000 in
theorem st_dup (hC : ab_Cx p R s m args meth c D dA base mi) (hd : lkC mi pc = some (.dup)) (hR : ab_Rl s D dA base mi ls M H locs lsA) {q : Nat × ab_L × List Value × ab_M} (h : stp mi pc (.dup) ls st M = some (.inl q)) (hc : cells + mZ q.2.2.2 ≤ R.cells + mZ M) (hs : slots + mS q.2.2.2 ≤ R.slots + mS M) (k : ab_Nx p l e R s m args below meth c Q D dA base mi cells slots M q) : W p l e R s m args below meth c H locs cells slots Q (F0 m pc lsA (st.map (cv base))) := by
  obtain ⟨hx, hb, hr, hml, hown, hts, hK, hlocks, hnm, hfr, hlo⟩ := hC
  simp only [stp] at h
  split at h
  next v r =>
    obtain ⟨h0, h⟩ := if_inv h
    have h := qN_inv h
    subst h
    exact lv_dup hx hb (dec1 0 hd rfl) ((cv_cat base v).trans h0) (k H locs lsA cells slots hR rfl rfl)
  next => cases h

set_option maxHeartbeats 1000000 in
theorem st_pop (hC : ab_Cx p R s m args meth c D dA base mi) (hd : lkC mi pc = some (.pop)) (hR : ab_Rl s D dA base mi ls M H locs lsA) {q : Nat × ab_L × List Value × ab_M} (h : stp mi pc (.pop) ls st M = some (.inl q)) (hc : cells + mZ q.2.2.2 ≤ R.cells + mZ M) (hs : slots + mS q.2.2.2 ≤ R.slots + mS M) (k : ab_Nx p l e R s m args below meth c Q D dA base mi cells slots M q) : W p l e R s m args below meth c H locs cells slots Q (F0 m pc lsA (st.map (cv base))) := by
  obtain ⟨hx, hb, hr, hml, hown, hts, hK, hlocks, hnm, hfr, hlo⟩ := hC
  simp only [stp] at h
  split at h
  next v r =>
    obtain ⟨h0, h⟩ := if_inv h
    have h := qN_inv h
    subst h
    exact lv_pop hx hb (dec1 0 hd rfl) ((cv_cat base v).trans h0) (k H locs lsA cells slots hR rfl rfl)
  next => cases h

set_option maxHeartbeats 1000000 in
theorem st_dup2 (hC : ab_Cx p R s m args meth c D dA base mi) (hd : lkC mi pc = some (.dup2)) (hR : ab_Rl s D dA base mi ls M H locs lsA) {q : Nat × ab_L × List Value × ab_M} (h : stp mi pc (.dup2) ls st M = some (.inl q)) (hc : cells + mZ q.2.2.2 ≤ R.cells + mZ M) (hs : slots + mS q.2.2.2 ≤ R.slots + mS M) (k : ab_Nx p l e R s m args below meth c Q D dA base mi cells slots M q) : W p l e R s m args below meth c H locs cells slots Q (F0 m pc lsA (st.map (cv base))) := by
  obtain ⟨hx, hb, hr, hml, hown, hts, hK, hlocks, hnm, hfr, hlo⟩ := hC
  simp only [stp] at h
  split at h
  next v v2 r =>
    obtain ⟨h0, h⟩ := if_inv h
    have h := qN_inv h
    subst h
    exact lv_dup2_11 hx hb (dec1 0 hd rfl) ((cv_cat base v).trans h0.1) ((cv_cat base v2).trans h0.2) (k H locs lsA cells slots hR rfl rfl)
  next => cases h

set_option maxHeartbeats 1000000 in
theorem st_goto {off : Int} (hC : ab_Cx p R s m args meth c D dA base mi) (hd : lkC mi pc = some (.goto off)) (hR : ab_Rl s D dA base mi ls M H locs lsA) {q : Nat × ab_L × List Value × ab_M} (h : stp mi pc (.goto off) ls st M = some (.inl q)) (hc : cells + mZ q.2.2.2 ≤ R.cells + mZ M) (hs : slots + mS q.2.2.2 ≤ R.slots + mS M) (k : ab_Nx p l e R s m args below meth c Q D dA base mi cells slots M q) : W p l e R s m args below meth c H locs cells slots Q (F0 m pc lsA (st.map (cv base))) := by
  obtain ⟨hx, hb, hr, hml, hown, hts, hK, hlocks, hnm, hfr, hlo⟩ := hC
  obtain ⟨t, ht, h⟩ := qT_inv h
  have h := qN_inv h
  subst h
  exact lv_goto hx hb (dec1 2 hd rfl) ht (k H locs lsA cells slots hR rfl rfl)

set_option maxHeartbeats 1000000 in
theorem st_if_icmp_eq {off : Int} (hC : ab_Cx p R s m args meth c D dA base mi) (hd : lkC mi pc = some (.if_icmp .eq off)) (hR : ab_Rl s D dA base mi ls M H locs lsA) {q : Nat × ab_L × List Value × ab_M} (h : stp mi pc (.if_icmp .eq off) ls st M = some (.inl q)) (hc : cells + mZ q.2.2.2 ≤ R.cells + mZ M) (hs : slots + mS q.2.2.2 ≤ R.slots + mS M) (k : ab_Nx p l e R s m args below meth c Q D dA base mi cells slots M q) : W p l e R s m args below meth c H locs cells slots Q (F0 m pc lsA (st.map (cv base))) := by
  obtain ⟨hx, hb, hr, hml, hown, hts, hK, hlocks, hnm, hfr, hlo⟩ := hC
  obtain ⟨x, y, r, e0, h⟩ := qII_inv h
  subst e0
  obtain ⟨t, ht, h⟩ := qT_inv h
  have h := qN_inv h
  subst h
  have k1 := k H locs lsA cells slots hR rfl rfl
  dsimp only at k1
  refine lv_icmp_eq hx hb (dec1 2 hd rfl) ht (fun e => ?_) (fun e => ?_)
  · first | rw [if_pos e] at k1 | rw [if_neg e] at k1
    exact k1
  · first | rw [if_neg e] at k1 | rw [if_pos e] at k1
    exact k1

set_option maxHeartbeats 1000000 in
theorem st_if_icmp_ne {off : Int} (hC : ab_Cx p R s m args meth c D dA base mi) (hd : lkC mi pc = some (.if_icmp .ne off)) (hR : ab_Rl s D dA base mi ls M H locs lsA) {q : Nat × ab_L × List Value × ab_M} (h : stp mi pc (.if_icmp .ne off) ls st M = some (.inl q)) (hc : cells + mZ q.2.2.2 ≤ R.cells + mZ M) (hs : slots + mS q.2.2.2 ≤ R.slots + mS M) (k : ab_Nx p l e R s m args below meth c Q D dA base mi cells slots M q) : W p l e R s m args below meth c H locs cells slots Q (F0 m pc lsA (st.map (cv base))) := by
  obtain ⟨hx, hb, hr, hml, hown, hts, hK, hlocks, hnm, hfr, hlo⟩ := hC
  obtain ⟨x, y, r, e0, h⟩ := qII_inv h
  subst e0
  obtain ⟨t, ht, h⟩ := qT_inv h
  have h := qN_inv h
  subst h
  have k1 := k H locs lsA cells slots hR rfl rfl
  dsimp only at k1
  refine lv_icmp_ne hx hb (dec1 2 hd rfl) ht (fun e => ?_) (fun e => ?_)
  · first | rw [if_pos e] at k1 | rw [if_neg e] at k1
    exact k1
  · first | rw [if_neg e] at k1 | rw [if_pos e] at k1
    exact k1

set_option maxHeartbeats 1000000 in
theorem st_if_icmp_lt {off : Int} (hC : ab_Cx p R s m args meth c D dA base mi) (hd : lkC mi pc = some (.if_icmp .lt off)) (hR : ab_Rl s D dA base mi ls M H locs lsA) {q : Nat × ab_L × List Value × ab_M} (h : stp mi pc (.if_icmp .lt off) ls st M = some (.inl q)) (hc : cells + mZ q.2.2.2 ≤ R.cells + mZ M) (hs : slots + mS q.2.2.2 ≤ R.slots + mS M) (k : ab_Nx p l e R s m args below meth c Q D dA base mi cells slots M q) : W p l e R s m args below meth c H locs cells slots Q (F0 m pc lsA (st.map (cv base))) := by
  obtain ⟨hx, hb, hr, hml, hown, hts, hK, hlocks, hnm, hfr, hlo⟩ := hC
  obtain ⟨x, y, r, e0, h⟩ := qII_inv h
  subst e0
  obtain ⟨t, ht, h⟩ := qT_inv h
  have h := qN_inv h
  subst h
  have k1 := k H locs lsA cells slots hR rfl rfl
  dsimp only at k1
  refine lv_icmp_lt hx hb (dec1 2 hd rfl) ht (fun e => ?_) (fun e => ?_)
  · first | rw [if_pos e] at k1 | rw [if_neg e] at k1
    exact k1
  · first | rw [if_neg e] at k1 | rw [if_pos e] at k1
    exact k1

set_option maxHeartbeats 1000000 in
theorem st_if_icmp_ge {off : Int} (hC : ab_Cx p R s m args meth c D dA base mi) (hd : lkC mi pc = some (.if_icmp .ge off)) (hR : ab_Rl s D dA base mi ls M H locs lsA) {q : Nat × ab_L × List Value × ab_M} (h : stp mi pc (.if_icmp .ge off) ls st M = some (.inl q)) (hc : cells + mZ q.2.2.2 ≤ R.cells + mZ M) (hs : slots + mS q.2.2.2 ≤ R.slots + mS M) (k : ab_Nx p l e R s m args below meth c Q D dA base mi cells slots M q) : W p l e R s m args below meth c H locs cells slots Q (F0 m pc lsA (st.map (cv base))) := by
  obtain ⟨hx, hb, hr, hml, hown, hts, hK, hlocks, hnm, hfr, hlo⟩ := hC
  obtain ⟨x, y, r, e0, h⟩ := qII_inv h
  subst e0
  obtain ⟨t, ht, h⟩ := qT_inv h
  have h := qN_inv h
  subst h
  have k1 := k H locs lsA cells slots hR rfl rfl
  dsimp only at k1
  refine lv_icmp_ge hx hb (dec1 2 hd rfl) ht (fun e => ?_) (fun e => ?_)
  · first | rw [if_pos e] at k1 | rw [if_neg e] at k1
    exact k1
  · first | rw [if_neg e] at k1 | rw [if_pos e] at k1
    exact k1

set_option maxHeartbeats 1000000 in
theorem st_if_icmp_gt {off : Int} (hC : ab_Cx p R s m args meth c D dA base mi) (hd : lkC mi pc = some (.if_icmp .gt off)) (hR : ab_Rl s D dA base mi ls M H locs lsA) {q : Nat × ab_L × List Value × ab_M} (h : stp mi pc (.if_icmp .gt off) ls st M = some (.inl q)) (hc : cells + mZ q.2.2.2 ≤ R.cells + mZ M) (hs : slots + mS q.2.2.2 ≤ R.slots + mS M) (k : ab_Nx p l e R s m args below meth c Q D dA base mi cells slots M q) : W p l e R s m args below meth c H locs cells slots Q (F0 m pc lsA (st.map (cv base))) := by
  obtain ⟨hx, hb, hr, hml, hown, hts, hK, hlocks, hnm, hfr, hlo⟩ := hC
  obtain ⟨x, y, r, e0, h⟩ := qII_inv h
  subst e0
  obtain ⟨t, ht, h⟩ := qT_inv h
  have h := qN_inv h
  subst h
  have k1 := k H locs lsA cells slots hR rfl rfl
  dsimp only at k1
  refine lv_icmp_gt hx hb (dec1 2 hd rfl) ht (fun e => ?_) (fun e => ?_)
  · first | rw [if_pos e] at k1 | rw [if_neg e] at k1
    exact k1
  · first | rw [if_neg e] at k1 | rw [if_pos e] at k1
    exact k1

set_option maxHeartbeats 1000000 in
theorem st_if_icmp_le {off : Int} (hC : ab_Cx p R s m args meth c D dA base mi) (hd : lkC mi pc = some (.if_icmp .le off)) (hR : ab_Rl s D dA base mi ls M H locs lsA) {q : Nat × ab_L × List Value × ab_M} (h : stp mi pc (.if_icmp .le off) ls st M = some (.inl q)) (hc : cells + mZ q.2.2.2 ≤ R.cells + mZ M) (hs : slots + mS q.2.2.2 ≤ R.slots + mS M) (k : ab_Nx p l e R s m args below meth c Q D dA base mi cells slots M q) : W p l e R s m args below meth c H locs cells slots Q (F0 m pc lsA (st.map (cv base))) := by
  obtain ⟨hx, hb, hr, hml, hown, hts, hK, hlocks, hnm, hfr, hlo⟩ := hC
  obtain ⟨x, y, r, e0, h⟩ := qII_inv h
  subst e0
  obtain ⟨t, ht, h⟩ := qT_inv h
  have h := qN_inv h
  subst h
  have k1 := k H locs lsA cells slots hR rfl rfl
  dsimp only at k1
  refine lv_icmp_le hx hb (dec1 2 hd rfl) ht (fun e => ?_) (fun e => ?_)
  · first | rw [if_pos e] at k1 | rw [if_neg e] at k1
    exact k1
  · first | rw [if_neg e] at k1 | rw [if_pos e] at k1
    exact k1

set_option maxHeartbeats 1000000 in
theorem st_ifCond_eq {off : Int} (hC : ab_Cx p R s m args meth c D dA base mi) (hd : lkC mi pc = some (.ifCond .eq off)) (hR : ab_Rl s D dA base mi ls M H locs lsA) {q : Nat × ab_L × List Value × ab_M} (h : stp mi pc (.ifCond .eq off) ls st M = some (.inl q)) (hc : cells + mZ q.2.2.2 ≤ R.cells + mZ M) (hs : slots + mS q.2.2.2 ≤ R.slots + mS M) (k : ab_Nx p l e R s m args below meth c Q D dA base mi cells slots M q) : W p l e R s m args below meth c H locs cells slots Q (F0 m pc lsA (st.map (cv base))) := by
  obtain ⟨hx, hb, hr, hml, hown, hts, hK, hlocks, hnm, hfr, hlo⟩ := hC
  obtain ⟨x, r, e0, h⟩ := qI_inv h
  subst e0
  obtain ⟨t, ht, h⟩ := qT_inv h
  have h := qN_inv h
  subst h
  have k1 := k H locs lsA cells slots hR rfl rfl
  dsimp only at k1
  refine lv_if_eq hx hb (dec1 2 hd rfl) ht (fun e => ?_) (fun e => ?_)
  · first | rw [if_pos e] at k1 | rw [if_neg e] at k1
    exact k1
  · first | rw [if_neg e] at k1 | rw [if_pos e] at k1
    exact k1

set_option maxHeartbeats 1000000 in
theorem st_ifCond_ne {off : Int} (hC : ab_Cx p R s m args meth c D dA base mi) (hd : lkC mi pc = some (.ifCond .ne off)) (hR : ab_Rl s D dA base mi ls M H locs lsA) {q : Nat × ab_L × List Value × ab_M} (h : stp mi pc (.ifCond .ne off) ls st M = some (.inl q)) (hc : cells + mZ q.2.2.2 ≤ R.cells + mZ M) (hs : slots + mS q.2.2.2 ≤ R.slots + mS M) (k : ab_Nx p l e R s m args below meth c Q D dA base mi cells slots M q) : W p l e R s m args below meth c H locs cells slots Q (F0 m pc lsA (st.map (cv base))) := by
  obtain ⟨hx, hb, hr, hml, hown, hts, hK, hlocks, hnm, hfr, hlo⟩ := hC
  obtain ⟨x, r, e0, h⟩ := qI_inv h
  subst e0
  obtain ⟨t, ht, h⟩ := qT_inv h
  have h := qN_inv h
  subst h
  have k1 := k H locs lsA cells slots hR rfl rfl
  dsimp only at k1
  refine lv_if_ne hx hb (dec1 2 hd rfl) ht (fun e => ?_) (fun e => ?_)
  · first | rw [if_pos e] at k1 | rw [if_neg e] at k1
    exact k1
  · first | rw [if_neg e] at k1 | rw [if_pos e] at k1
    exact k1

set_option maxHeartbeats 1000000 in
theorem st_ifCond_lt {off : Int} (hC : ab_Cx p R s m args meth c D dA base mi) (hd : lkC mi pc = some (.ifCond .lt off)) (hR : ab_Rl s D dA base mi ls M H locs lsA) {q : Nat × ab_L × List Value × ab_M} (h : stp mi pc (.ifCond .lt off) ls st M = some (.inl q)) (hc : cells + mZ q.2.2.2 ≤ R.cells + mZ M) (hs : slots + mS q.2.2.2 ≤ R.slots + mS M) (k : ab_Nx p l e R s m args below meth c Q D dA base mi cells slots M q) : W p l e R s m args below meth c H locs cells slots Q (F0 m pc lsA (st.map (cv base))) := by
  obtain ⟨hx, hb, hr, hml, hown, hts, hK, hlocks, hnm, hfr, hlo⟩ := hC
  obtain ⟨x, r, e0, h⟩ := qI_inv h
  subst e0
  obtain ⟨t, ht, h⟩ := qT_inv h
  have h := qN_inv h
  subst h
  have k1 := k H locs lsA cells slots hR rfl rfl
  dsimp only at k1
  refine lv_if_lt hx hb (dec1 2 hd rfl) ht (fun e => ?_) (fun e => ?_)
  · first | rw [if_pos e] at k1 | rw [if_neg e] at k1
    exact k1
  · first | rw [if_neg e] at k1 | rw [if_pos e] at k1
    exact k1

set_option maxHeartbeats 1000000 in
theorem st_ifCond_ge {off : Int} (hC : ab_Cx p R s m args meth c D dA base mi) (hd : lkC mi pc = some (.ifCond .ge off)) (hR : ab_Rl s D dA base mi ls M H locs lsA) {q : Nat × ab_L × List Value × ab_M} (h : stp mi pc (.ifCond .ge off) ls st M = some (.inl q)) (hc : cells + mZ q.2.2.2 ≤ R.cells + mZ M) (hs : slots + mS q.2.2.2 ≤ R.slots + mS M) (k : ab_Nx p l e R s m args below meth c Q D dA base mi cells slots M q) : W p l e R s m args below meth c H locs cells slots Q (F0 m pc lsA (st.map (cv base))) := by
  obtain ⟨hx, hb, hr, hml, hown, hts, hK, hlocks, hnm, hfr, hlo⟩ := hC
  obtain ⟨x, r, e0, h⟩ := qI_inv h
  subst e0
  obtain ⟨t, ht, h⟩ := qT_inv h
  have h := qN_inv h
  subst h
  have k1 := k H locs lsA cells slots hR rfl rfl
  dsimp only at k1
  refine lv_if_ge hx hb (dec1 2 hd rfl) ht (fun e => ?_) (fun e => ?_)
  · first | rw [if_pos e] at k1 | rw [if_neg e] at k1
    exact k1
  · first | rw [if_neg e] at k1 | rw [if_pos e] at k1
    exact k1

set_option maxHeartbeats 1000000 in
theorem st_ifCond_gt {off : Int} (hC : ab_Cx p R s m args meth c D dA base mi) (hd : lkC mi pc = some (.ifCond .gt off)) (hR : ab_Rl s D dA base mi ls M H locs lsA) {q : Nat × ab_L × List Value × ab_M} (h : stp mi pc (.ifCond .gt off) ls st M = some (.inl q)) (hc : cells + mZ q.2.2.2 ≤ R.cells + mZ M) (hs : slots + mS q.2.2.2 ≤ R.slots + mS M) (k : ab_Nx p l e R s m args below meth c Q D dA base mi cells slots M q) : W p l e R s m args below meth c H locs cells slots Q (F0 m pc lsA (st.map (cv base))) := by
  obtain ⟨hx, hb, hr, hml, hown, hts, hK, hlocks, hnm, hfr, hlo⟩ := hC
  obtain ⟨x, r, e0, h⟩ := qI_inv h
  subst e0
  obtain ⟨t, ht, h⟩ := qT_inv h
  have h := qN_inv h
  subst h
  have k1 := k H locs lsA cells slots hR rfl rfl
  dsimp only at k1
  refine lv_if_gt hx hb (dec1 2 hd rfl) ht (fun e => ?_) (fun e => ?_)
  · first | rw [if_pos e] at k1 | rw [if_neg e] at k1
    exact k1
  · first | rw [if_neg e] at k1 | rw [if_pos e] at k1
    exact k1

set_option maxHeartbeats 1000000 in
theorem st_ifCond_le {off : Int} (hC : ab_Cx p R s m args meth c D dA base mi) (hd : lkC mi pc = some (.ifCond .le off)) (hR : ab_Rl s D dA base mi ls M H locs lsA) {q : Nat × ab_L × List Value × ab_M} (h : stp mi pc (.ifCond .le off) ls st M = some (.inl q)) (hc : cells + mZ q.2.2.2 ≤ R.cells + mZ M) (hs : slots + mS q.2.2.2 ≤ R.slots + mS M) (k : ab_Nx p l e R s m args below meth c Q D dA base mi cells slots M q) : W p l e R s m args below meth c H locs cells slots Q (F0 m pc lsA (st.map (cv base))) := by
  obtain ⟨hx, hb, hr, hml, hown, hts, hK, hlocks, hnm, hfr, hlo⟩ := hC
  obtain ⟨x, r, e0, h⟩ := qI_inv h
  subst e0
  obtain ⟨t, ht, h⟩ := qT_inv h
  have h := qN_inv h
  subst h
  have k1 := k H locs lsA cells slots hR rfl rfl
  dsimp only at k1
  refine lv_if_le hx hb (dec1 2 hd rfl) ht (fun e => ?_) (fun e => ?_)
  · first | rw [if_pos e] at k1 | rw [if_neg e] at k1
    exact k1
  · first | rw [if_neg e] at k1 | rw [if_pos e] at k1
    exact k1

set_option maxHeartbeats 1000000 in
theorem st_tableswitch {df lo hi : Int} {offs : Array Int} (hC : ab_Cx p R s m args meth c D dA base mi) (hd : lkC mi pc = some (.tableswitch df lo hi offs)) (hR : ab_Rl s D dA base mi ls M H locs lsA) {q : Nat × ab_L × List Value × ab_M} (h : stp mi pc (.tableswitch df lo hi offs) ls st M = some (.inl q)) (hc : cells + mZ q.2.2.2 ≤ R.cells + mZ M) (hs : slots + mS q.2.2.2 ≤ R.slots + mS M) (k : ab_Nx p l e R s m args below meth c Q D dA base mi cells slots M q) : W p l e R s m args below meth c H locs cells slots Q (F0 m pc lsA (st.map (cv base))) := by
  obtain ⟨hx, hb, hr, hml, hown, hts, hK, hlocks, hnm, hfr, hlo⟩ := hC
  obtain ⟨x, r, e0, h0⟩ := qI_inv h
  subst e0
  clear h
  have h := h0
  obtain ⟨ln, hd1, -⟩ := lkC_dec hd
  by_cases c0 : x.toInt < lo ∨ hi < x.toInt
  · rw [if_pos c0] at h
    obtain ⟨t, ht, h⟩ := qT_inv h
    have h := qN_inv h
    subst h
    exact lv_tableOut hx hb hd1 c0 ht (k H locs lsA cells slots hR rfl rfl)
  · rw [if_neg c0] at h
    split at h
    next off ho =>
      obtain ⟨t, ht, h⟩ := qT_inv h
      have h := qN_inv h
      subst h
      exact lv_tableIn hx hb hd1 (fun e => c0 (Or.inl e)) (fun e => c0 (Or.inr e)) ho ht (k H locs lsA cells slots hR rfl rfl)
    next => cases h

set_option maxHeartbeats 1000000 in
theorem st_getfield {i : Nat} (hC : ab_Cx p R s m args meth c D dA base mi) (hd : lkC mi pc = some (.getfield i)) (hR : ab_Rl s D dA base mi ls M H locs lsA) {q : Nat × ab_L × List Value × ab_M} (h : stp mi pc (.getfield i) ls st M = some (.inl q)) (hc : cells + mZ q.2.2.2 ≤ R.cells + mZ M) (hs : slots + mS q.2.2.2 ≤ R.slots + mS M) (k : ab_Nx p l e R s m args below meth c Q D dA base mi cells slots M q) : W p l e R s m args below meth c H locs cells slots Q (F0 m pc lsA (st.map (cv base))) := by
  obtain ⟨hx, hb, hr, hml, hown, hts, hK, hlocks, hnm, hfr, hlo⟩ := hC
  simp only [stp] at h
  split at h
  next a r =>
    obtain ⟨ci, f, t, fin, hl, hk, h⟩ := bGet_inv h
    have h := qN_inv h
    subst h
    obtain ⟨C, T, N, hcl, hf, hlink, hT1, -, -, hft, -⟩ := lkF_ok hl
    obtain ⟨h12, hnF, -, -⟩ := ab_cl_ok _ _ _ _ hcl
    obtain ⟨cell, q1, q2, q3, q4⟩ := ab_cO hR.2.2.1 hk h12
    obtain ⟨hS, hfc, kC, hkC, hkind⟩ := hK.1.1 ci _ hcl
    obtain ⟨cf, kf, fi, fd, hi, hsl⟩ := hS f hf
    refine W.getf (v := cv base (fvl M a f t)) hx hb hown (hts _ (List.mem_cons_of_mem _ hlink)) (by rw [← hT1]; exact hi) (u_facts hfc hkC (u_lays hts (fun w hw => List.mem_cons_of_mem _ (ab_i0 _ (List.mem_of_getElem? hcl) w hw)) hf) hi).1 q1 (by rw [q3]; exact fun h => by cases h) ?_ rfl rfl (dec1 2 hd rfl) (k H locs lsA cells slots hR rfl rfl)
    rw [hsl, q4 f (by rw [hnF]; exact hf)]
    show some (cv base (fvl M a f (ab_ft ci f))) = _
    rw [hft]
  next => cases h

set_option maxHeartbeats 1000000 in
theorem ab_put (hC : ab_Cx p R s m args meth c D dA base mi) {i a ci f t : Nat} {fin : Bool} {v : Value} {r : List Value} (hd : lkC mi pc = some (.putfield i)) (hR : ab_Rl s D dA base mi ls M H locs lsA) (hl : lkF (ab_o mi) i = some (ci, f, t, fin)) (hk : mK M a = ci) (hfin : fin = false ∨ (ab_ini mi = true ∧ ab_o mi = ci)) {M1 : ab_M}
    (hty : ∀ ty, ab_okT t (some ty) = true → narrow ty (cv base v) = cv base v ∧ fits ty (cv base v) = true) (hz : mZ M1 = mZ M) (hS1 : mS M1 = mS M) (hk1 : mK M1 = mK M) (hn1 : mN M1 = mN M) (hI : ∀ b, b ≠ a → mI M1 b = mI M b) (hJ : ∀ b, b ≠ a → mJ M1 b = mJ M b) (hRr : ∀ b, b ≠ a → mR M1 b = mR M b) (hv : fvl M1 a f t = v) (ho : ∀ j, j ≠ f → ∀ t', fvl M1 a j t' = fvl M a j t')
    (k : ab_Nx p l e R s m args below meth c Q D dA base mi cells slots M (pc + 3, ls, r, M1)) : W p l e R s m args below meth c H locs cells slots Q (F0 m pc lsA (cv base v :: .ref (base + a) :: r.map (cv base))) := by
  obtain ⟨hx, hb, hr, hml, hown, hts, hK, hlocks, hnm, hfr, hlo⟩ := hC
  obtain ⟨C, T, N, hcl, hf, hlink, hT1, hT4, hT5, hft, hoN⟩ := lkF_ok hl
  obtain ⟨h12, hnF, hall, hnames⟩ := ab_cl_ok _ _ _ _ hcl
  obtain ⟨cell, q1, q2, q3, q4⟩ := ab_cO hR.2.2.1 hk h12
  obtain ⟨hS, hfc, kC, hkC, hkind⟩ := hK.1.1 ci _ hcl
  obtain ⟨cf, kf, fi, fd, hi, hsl⟩ := hS f hf
  have hin : ∀ w ∈ u_ws C T N, w ∈ ab_wsM mi := fun w hw => List.mem_cons_of_mem _ (ab_i0 _ (List.mem_of_getElem? hcl) w hw)
  obtain ⟨ty, hpty⟩ : ∃ ty, parseFieldDescriptor (T f).2.2.1 = some ty := by
    cases hp : parseFieldDescriptor (T f).2.2.1 with
    | none => rw [hp] at hT5; unfold ab_okT at hT5; split at hT5 <;> simp_all
    | some ty => exact ⟨ty, rfl⟩
  rw [hpty] at hT5
  obtain ⟨hn, hfit⟩ := hty ty hT5
  have hty0 : ∀ k, k < N → ∃ ty, parseFieldDescriptor (T k).2.2.1 = some ty := by
    intro k hk
    have h1 := hall k hk
    cases hp : parseFieldDescriptor (T k).2.2.1 with
    | none => rw [hp] at h1; unfold ab_okT at h1; split at h1 <;> simp_all
    | some ty => exact ⟨ty, rfl⟩
  have hap : ∀ x y, x < N → y < N → x ≠ y → (D.2 ci) x ≠ (D.2 ci) y := by
    refine va_apart (own := ab_oN (ab_o mi)) hts hin (fun k => (parseFieldDescriptor (T k).2.2.1).getD .int) (fun k hk => ?_) hnames hK.1 hcl
    obtain ⟨ty, h1⟩ := hty0 k hk
    rw [h1]
    rfl
  have hst := (u_facts hfc hkC (u_lays hts hin hf) hi).1
  have hfld : Fd s m args (ab_oN (ab_o mi)) C (T f).2.1 (T f).2.2.1 i fd := ⟨hown, hts _ (List.mem_cons_of_mem _ hlink), ⟨cf, kf, fi, by rw [← hT1]; exact hi⟩, hst⟩
  have hsz : fd.slot < cell.slots.size := by rw [hsl]; exact k2_hasslot (q4 f (by rw [hnF]; exact hf))
  have fin2 : ∀ H' : Heap, H'[base + a]? = some (cell.setSlot fd.slot (cv base v)) → H'.size = H.size → (∀ q, q ≠ base + a → H'[q]? = H[q]?) → W p l e R s m args below meth c H' (locs ++ [⟨base + a, fd.slot⟩]) cells slots Q (F0 m (pc + 3) lsA (r.map (cv base))) := by
    intro H' e1 e2 e3
    refine k H' _ lsA cells slots ⟨hR.1, hR.2.1, hR.2.2.1.upd a hz hk1 hn1 hI hJ hRr e2 e3 ?_, hR.2.2.2.upd e2 e3⟩ (by rw [hz]) (by rw [hS1])
    refine ab_cO' (by rw [hk1]; exact hk) h12 ⟨_, e1, q2, q3, ?_⟩
    rw [hsl]
    intro j hj
    have h9 := t_set q4 (fun x y hx hy => hap x y (by rw [← hnF]; exact hx) (by rw [← hnF]; exact hy)) (by rw [hnF]; exact hf) (cv base v) j hj
    rw [h9]
    congr 1
    show updV _ f (cv base v) j = cv base (fvl M1 a j (ab_ft ci j))
    by_cases hjf : j = f
    · subst hjf
      rw [hft, hv]
      simp [updV]
    · rw [ho j hjf]
      simp [updV, hjf]
  rcases hfin with hfin | ⟨hini, hoc⟩
  · have hlay := hts _ (hin _ (u_in_lay hf))
    unfold u_lay at hlay
    rw [if_neg (by rw [hT4, hfin]; decide)] at hlay
    have h6 := u_store hfc hkC hkind hlay hi hpty hn hfit
    exact W.putK (g := F0 m pc lsA (cv base v :: .ref (base + a) :: r.map (cv base))) hx hb hfld (by rw [q2]; exact h6) q1 q3 hsz rfl rfl (dec1 2 hd rfl) fin2
  · by_cases hfin : fin = false
    · have hlay := hts _ (hin _ (u_in_lay hf))
      unfold u_lay at hlay
      rw [if_neg (by rw [hT4, hfin]; decide)] at hlay
      have h6 := u_store hfc hkC hkind hlay hi hpty hn hfit
      exact W.putK (g := F0 m pc lsA (cv base v :: .ref (base + a) :: r.map (cv base))) hx hb hfld (by rw [q2]; exact h6) q1 q3 hsz rfl rfl (dec1 2 hd rfl) fin2
    · have hfin : fin = true := by simpa using hfin
      have hlay := hts _ (hin _ (u_in_lay hf))
      unfold u_lay at hlay
      rw [if_pos (by rw [hT4, hfin])] at hlay
      have hcf : m.cls = cf := by
        obtain ⟨_, _, c', _, _, _, -, -, hf', -, -, -, hown2, -⟩ := Cond.laysFinal_spec hlay
        have e1 : c' = cf := by have := hi.symm.trans hf'; simp at this; exact this.1.symm
        rw [hT1, ← hoN, ← hoc] at hown2
        rw [← e1]; exact Option.some.inj (hown.symm.trans hown2)
      have h6 := u_fits hfc hkC hkind (Or.inr hlay) hi hpty hn hfit
      have hin2 : meth.name = "<init>" := by rw [hnm, (ab_facts mi).2.2.2.2.1]; exact hini
      exact W.putFinK (g := F0 m pc lsA (cv base v :: .ref (base + a) :: r.map (cv base))) hx hb hown (hts _ (List.mem_cons_of_mem _ hlink)) (by rw [← hT1]; exact hi) hst hcf hin2 (by rw [q2]; exact h6) q1 q3 hsz rfl rfl (dec1 2 hd rfl) fin2
theorem fvl_wI {a f : Nat} {x : Int32} {t : Nat} (ht : t ≠ 2) : fvl (wI M a f x) a f t = .int x := by
  unfold fvl
  split
  · exact absurd rfl ht
  · show Value.int (u2 _ _ _ _ a f) = _
    rw [u2, if_pos ⟨rfl, rfl⟩]
theorem fvl_wI_ne {a f j t : Nat} {x : Int32} (h : j ≠ f) : fvl (wI M a f x) a j t = fvl M a j t := by
  unfold fvl
  split
  · rfl
  · show Value.int (u2 _ _ _ _ a j) = _
    rw [u2, if_neg (fun e => h e.2)]
theorem mI_wI_ne {a f b : Nat} {x : Int32} (h : b ≠ a) : mI (wI M a f x) b = mI M b := by
  funext j
  show u2 _ _ _ _ b j = _
  rw [u2, if_neg (fun e => h e.1)]
theorem mJ_wJ_ne {a f b : Nat} {x : Int64} (h : b ≠ a) : mJ (wJ M a f x) b = mJ M b := by
  funext j
  show u2 _ _ _ _ b j = _
  rw [u2, if_neg (fun e => h e.1)]
theorem mR_wR_ne {a f b : Nat} {x : Option Nat} (h : b ≠ a) : mR (wR M a f x) b = mR M b := by
  funext j
  show u2 _ _ _ _ b j = _
  rw [u2, if_neg (fun e => h e.1)]

set_option maxHeartbeats 1000000 in
theorem st_putfield {i : Nat} (hC : ab_Cx p R s m args meth c D dA base mi) (hd : lkC mi pc = some (.putfield i)) (hR : ab_Rl s D dA base mi ls M H locs lsA) {q : Nat × ab_L × List Value × ab_M} (h : stp mi pc (.putfield i) ls st M = some (.inl q)) (hc : cells + mZ q.2.2.2 ≤ R.cells + mZ M) (hs : slots + mS q.2.2.2 ≤ R.slots + mS M) (k : ab_Nx p l e R s m args below meth c Q D dA base mi cells slots M q) : W p l e R s m args below meth c H locs cells slots Q (F0 m pc lsA (st.map (cv base))) := by
  obtain ⟨hx, hb, hr, hml, hown, hts, hK, hlocks, hnm, hfr, hlo⟩ := hC
  have hC : ab_Cx p R s m args meth c D dA base mi := ⟨hx, hb, hr, hml, hown, hts, hK, hlocks, hnm, hfr, hlo⟩
  simp only [stp] at h
  split at h
  next v a r =>
    obtain ⟨ci, f, t, fin, hl, hk, hfin, h0⟩ := bPut_inv h
    clear h
    rcases h0 with ⟨x, rfl, rfl, h⟩ | ⟨x, rfl, rfl, h01, h⟩ | ⟨b, rfl, rfl, h⟩
    · have h := qN_inv h
      subst h
      refine ab_put hC hd hR hl hk hfin (v := .int x) (M1 := wI M a f x) (fun ty ht => ?_) rfl rfl rfl rfl (fun b hb => mI_wI_ne hb) (fun b hb => rfl) (fun b hb => rfl) (fvl_wI (by decide)) (fun j hj t' => fvl_wI_ne hj) k
      have := okT_0 ht
      cases this
      exact ⟨rfl, rfl⟩
    · have h := qN_inv h
      subst h
      refine ab_put hC hd hR hl hk hfin (v := .int x) (M1 := wI M a f x) (fun ty ht => ?_) rfl rfl rfl rfl (fun b hb => mI_wI_ne hb) (fun b hb => rfl) (fun b hb => rfl) (fvl_wI (by decide)) (fun j hj t' => fvl_wI_ne hj) k
      have := okT_1 ht
      cases this
      rcases h01 with rfl | rfl <;> exact ⟨rfl, rfl⟩
    · have h := qN_inv h
      subst h
      refine ab_put hC hd hR hl hk hfin (v := .ref b) (M1 := wR M a f (some b)) (fun ty ht => ?_) rfl rfl rfl rfl (fun b hb => rfl) (fun b hb => rfl) (fun b hb => mR_wR_ne hb) ?_ (fun j hj t' => ?_) k
      · rcases okT_2 ht with ⟨n, hn⟩ | ⟨n, hn⟩
        · cases hn
          exact ⟨rfl, rfl⟩
        · cases hn
          exact ⟨rfl, rfl⟩
      · show va_rf (u2 _ _ _ _ a f) = _
        rw [u2, if_pos ⟨rfl, rfl⟩]
        rfl
      · unfold fvl
        split
        · show va_rf (u2 _ _ _ _ a j) = _
          rw [u2, if_neg (fun e => hj e.2)]
        · rfl
  next => cases h

set_option maxHeartbeats 1000000 in
theorem st_iaload (hC : ab_Cx p R s m args meth c D dA base mi) (hd : lkC mi pc = some (.iaload)) (hR : ab_Rl s D dA base mi ls M H locs lsA) {q : Nat × ab_L × List Value × ab_M} (h : stp mi pc (.iaload) ls st M = some (.inl q)) (hc : cells + mZ q.2.2.2 ≤ R.cells + mZ M) (hs : slots + mS q.2.2.2 ≤ R.slots + mS M) (k : ab_Nx p l e R s m args below meth c Q D dA base mi cells slots M q) : W p l e R s m args below meth c H locs cells slots Q (F0 m pc lsA (st.map (cv base))) := by
  obtain ⟨hx, hb, hr, hml, hown, hts, hK, hlocks, hnm, hfr, hlo⟩ := hC
  simp only [stp, bIld] at h
  split at h
  next i a r =>
    obtain ⟨⟨hk, hin⟩, h⟩ := if_inv h
    have h := qN_inv h
    subst h
    have hlt : i.toNatClampNeg < mN M a := Nat.not_le.mp fun q => hin (Or.inr q)
    exact W.iald (v := .int (mI M a i.toNatClampNeg)) (g := F0 m pc lsA (.int i :: .ref (base + a) :: r.map (cv base))) hx hb (ab_cI hR.2.2.1 hk (by decide)) (ab_arr20 hK _ (fun j => .int (mI M a j))) (fun q => by cases q) (by show ¬ (i < 0 ∨ (arrV _ _ _).slots.size ≤ _); rw [arrV_size]; exact hin) (by show (arrV _ _ _).slots[_]? = _; rw [arrV_read _ _ hlt]) rfl rfl (dec1 0 hd rfl) (k H locs lsA cells slots hR rfl rfl)
  next => cases h

set_option maxHeartbeats 1000000 in
theorem st_baload (hC : ab_Cx p R s m args meth c D dA base mi) (hd : lkC mi pc = some (.baload)) (hR : ab_Rl s D dA base mi ls M H locs lsA) {q : Nat × ab_L × List Value × ab_M} (h : stp mi pc (.baload) ls st M = some (.inl q)) (hc : cells + mZ q.2.2.2 ≤ R.cells + mZ M) (hs : slots + mS q.2.2.2 ≤ R.slots + mS M) (k : ab_Nx p l e R s m args below meth c Q D dA base mi cells slots M q) : W p l e R s m args below meth c H locs cells slots Q (F0 m pc lsA (st.map (cv base))) := by
  obtain ⟨hx, hb, hr, hml, hown, hts, hK, hlocks, hnm, hfr, hlo⟩ := hC
  simp only [stp, bIld] at h
  split at h
  next i a r =>
    obtain ⟨⟨hk, hin⟩, h⟩ := if_inv h
    have h := qN_inv h
    subst h
    have hlt : i.toNatClampNeg < mN M a := Nat.not_le.mp fun q => hin (Or.inr q)
    exact W.zald (v := .int (mI M a i.toNatClampNeg)) (g := F0 m pc lsA (.int i :: .ref (base + a) :: r.map (cv base))) hx hb (ab_cI hR.2.2.1 hk (by decide)) (ab_arr22 hK _ (fun j => .int (mI M a j))) (fun q => by cases q) (by show ¬ (i < 0 ∨ (arrV _ _ _).slots.size ≤ _); rw [arrV_size]; exact hin) (by show (arrV _ _ _).slots[_]? = _; rw [arrV_read _ _ hlt]) rfl rfl (dec1 0 hd rfl) (k H locs lsA cells slots hR rfl rfl)
  next => cases h

set_option maxHeartbeats 1000000 in
theorem st_laload (hC : ab_Cx p R s m args meth c D dA base mi) (hd : lkC mi pc = some (.laload)) (hR : ab_Rl s D dA base mi ls M H locs lsA) {q : Nat × ab_L × List Value × ab_M} (h : stp mi pc (.laload) ls st M = some (.inl q)) (hc : cells + mZ q.2.2.2 ≤ R.cells + mZ M) (hs : slots + mS q.2.2.2 ≤ R.slots + mS M) (k : ab_Nx p l e R s m args below meth c Q D dA base mi cells slots M q) : W p l e R s m args below meth c H locs cells slots Q (F0 m pc lsA (st.map (cv base))) := by
  obtain ⟨hx, hb, hr, hml, hown, hts, hK, hlocks, hnm, hfr, hlo⟩ := hC
  simp only [stp] at h
  split at h
  next i a r =>
    obtain ⟨⟨hk, hin⟩, h⟩ := if_inv h
    have h := qN_inv h
    subst h
    have hlt : i.toNatClampNeg < mN M a := Nat.not_le.mp fun q => hin (Or.inr q)
    exact W.lald (v := .long (mJ M a i.toNatClampNeg)) (g := F0 m pc lsA (.int i :: .ref (base + a) :: r.map (cv base))) hx hb (ab_cJ hR.2.2.1 hk) (ab_arr21 hK _ (fun j => .long (mJ M a j))) (fun q => by cases q) (by show ¬ (i < 0 ∨ (arrV _ _ _).slots.size ≤ _); rw [arrV_size]; exact hin) (by show (arrV _ _ _).slots[_]? = _; rw [arrV_read _ _ hlt]) rfl rfl (dec1 0 hd rfl) (k H locs lsA cells slots hR rfl rfl)
  next => cases h

set_option maxHeartbeats 1000000 in
theorem st_aaload (hC : ab_Cx p R s m args meth c D dA base mi) (hd : lkC mi pc = some (.aaload)) (hR : ab_Rl s D dA base mi ls M H locs lsA) {q : Nat × ab_L × List Value × ab_M} (h : stp mi pc (.aaload) ls st M = some (.inl q)) (hc : cells + mZ q.2.2.2 ≤ R.cells + mZ M) (hs : slots + mS q.2.2.2 ≤ R.slots + mS M) (k : ab_Nx p l e R s m args below meth c Q D dA base mi cells slots M q) : W p l e R s m args below meth c H locs cells slots Q (F0 m pc lsA (st.map (cv base))) := by
  obtain ⟨hx, hb, hr, hml, hown, hts, hK, hlocks, hnm, hfr, hlo⟩ := hC
  simp only [stp] at h
  split at h
  next i a r =>
    obtain ⟨⟨hk, hin⟩, h⟩ := if_inv h
    have h := qN_inv h
    subst h
    have hlt : i.toNatClampNeg < mN M a := Nat.not_le.mp fun q => hin (Or.inr q)
    exact W.aald (v := cv base (va_rf (mR M a i.toNatClampNeg))) (g := F0 m pc lsA (.int i :: .ref (base + a) :: r.map (cv base))) hx hb (ab_cQ hR.2.2.1 hk) ((hK.1.2 3 _ rfl).1 _ (fun j => va_rf ((mR M a j).map (base + ·)))) rfl (fun q => by cases q) (by show ¬ (i < 0 ∨ (arrV _ _ _).slots.size ≤ _); rw [arrV_size]; exact hin) (by show (arrV _ _ _).slots[_]? = _; rw [arrV_read _ _ hlt, cv_rf]) rfl rfl (dec1 0 hd rfl) (k H locs lsA cells slots hR rfl rfl)
  next => cases h

set_option maxHeartbeats 1000000 in
theorem st_iastore (hC : ab_Cx p R s m args meth c D dA base mi) (hd : lkC mi pc = some (.iastore)) (hR : ab_Rl s D dA base mi ls M H locs lsA) {q : Nat × ab_L × List Value × ab_M} (h : stp mi pc (.iastore) ls st M = some (.inl q)) (hc : cells + mZ q.2.2.2 ≤ R.cells + mZ M) (hs : slots + mS q.2.2.2 ≤ R.slots + mS M) (k : ab_Nx p l e R s m args below meth c Q D dA base mi cells slots M q) : W p l e R s m args below meth c H locs cells slots Q (F0 m pc lsA (st.map (cv base))) := by
  obtain ⟨hx, hb, hr, hml, hown, hts, hK, hlocks, hnm, hfr, hlo⟩ := hC
  simp only [stp] at h
  split at h
  next x i a r =>
    obtain ⟨⟨hk, hin⟩, h⟩ := if_inv h
    have h := qN_inv h
    subst h
    refine W.iast (g := F0 m pc lsA (.int x :: .int i :: .ref (base + a) :: r.map (cv base))) hx hb (ab_cI hR.2.2.1 hk (by decide)) (ab_arr20 hK _ (fun j => .int (mI M a j))) (fun q => by cases q) (by show ¬ (i < 0 ∨ (arrV _ _ _).slots.size ≤ _); rw [arrV_size]; exact hin) rfl rfl (dec1 0 hd rfl) (fun H1 e1 z oq => ?_)
    refine k H1 _ lsA cells slots ⟨hR.1, hR.2.1, hR.2.2.1.upd a rfl rfl rfl (fun b hb => mI_wI_ne hb) (fun b hb => rfl) (fun b hb => rfl) z oq ?_, hR.2.2.2.upd z oq⟩ rfl rfl
    refine ab_cI' (kd := 20) hk (by decide) ?_
    rw [e1, vp_cell_i, vp_cell_i, arrV_store]
    show some (arrV _ (mN M a) _) = some (arrV _ (mN M a) _)
    congr 2
    funext q
    by_cases hq : q = i.toNatClampNeg
    · subst hq
      have e9 : mI (wI M a i.toNatClampNeg x) a i.toNatClampNeg = x := by
        show u2 _ _ _ _ a _ = _
        rw [u2, if_pos ⟨rfl, rfl⟩]
      rw [e9]
      simp only [updV, if_pos]
      try rfl
    · have e9 : mI (wI M a i.toNatClampNeg x) a q = mI M a q := by
        show u2 _ _ _ _ a _ = _
        rw [u2, if_neg (fun e => hq e.2)]
      rw [e9]
      simp [updV, hq]
  next => cases h

set_option maxHeartbeats 1000000 in
theorem st_bastore (hC : ab_Cx p R s m args meth c D dA base mi) (hd : lkC mi pc = some (.bastore)) (hR : ab_Rl s D dA base mi ls M H locs lsA) {q : Nat × ab_L × List Value × ab_M} (h : stp mi pc (.bastore) ls st M = some (.inl q)) (hc : cells + mZ q.2.2.2 ≤ R.cells + mZ M) (hs : slots + mS q.2.2.2 ≤ R.slots + mS M) (k : ab_Nx p l e R s m args below meth c Q D dA base mi cells slots M q) : W p l e R s m args below meth c H locs cells slots Q (F0 m pc lsA (st.map (cv base))) := by
  obtain ⟨hx, hb, hr, hml, hown, hts, hK, hlocks, hnm, hfr, hlo⟩ := hC
  simp only [stp] at h
  split at h
  next x i a r =>
    obtain ⟨⟨hk, hin, h01⟩, h⟩ := if_inv h
    have h := qN_inv h
    subst h
    refine W.zast (g := F0 m pc lsA (.int x :: .int i :: .ref (base + a) :: r.map (cv base))) hx hb (ab_cI hR.2.2.1 hk (by decide)) (ab_arr22 hK _ (fun j => .int (mI M a j))) (fun q => by cases q) (by show ¬ (i < 0 ∨ (arrV _ _ _).slots.size ≤ _); rw [arrV_size]; exact hin) rfl rfl (dec1 0 hd rfl) (fun H1 e1 z oq => ?_)
    refine k H1 _ lsA cells slots ⟨hR.1, hR.2.1, hR.2.2.1.upd a rfl rfl rfl (fun b hb => mI_wI_ne hb) (fun b hb => rfl) (fun b hb => rfl) z oq ?_, hR.2.2.2.upd z oq⟩ rfl rfl
    refine ab_cI' (kd := 22) hk (by decide) ?_
    rw [e1, vp_cell_i, vp_cell_i, arrV_store]
    show some (arrV _ (mN M a) _) = some (arrV _ (mN M a) _)
    congr 2
    funext q
    by_cases hq : q = i.toNatClampNeg
    · subst hq
      have e9 : mI (wI M a i.toNatClampNeg x) a i.toNatClampNeg = x := by
        show u2 _ _ _ _ a _ = _
        rw [u2, if_pos ⟨rfl, rfl⟩]
      rw [e9]
      simp only [updV, if_pos]
      rcases h01 with rfl | rfl <;> rfl
    · have e9 : mI (wI M a i.toNatClampNeg x) a q = mI M a q := by
        show u2 _ _ _ _ a _ = _
        rw [u2, if_neg (fun e => hq e.2)]
      rw [e9]
      simp [updV, hq]
  next => cases h

set_option maxHeartbeats 1000000 in
theorem st_lastore (hC : ab_Cx p R s m args meth c D dA base mi) (hd : lkC mi pc = some (.lastore)) (hR : ab_Rl s D dA base mi ls M H locs lsA) {q : Nat × ab_L × List Value × ab_M} (h : stp mi pc (.lastore) ls st M = some (.inl q)) (hc : cells + mZ q.2.2.2 ≤ R.cells + mZ M) (hs : slots + mS q.2.2.2 ≤ R.slots + mS M) (k : ab_Nx p l e R s m args below meth c Q D dA base mi cells slots M q) : W p l e R s m args below meth c H locs cells slots Q (F0 m pc lsA (st.map (cv base))) := by
  obtain ⟨hx, hb, hr, hml, hown, hts, hK, hlocks, hnm, hfr, hlo⟩ := hC
  simp only [stp] at h
  split at h
  next x i a r =>
    obtain ⟨⟨hk, hin⟩, h⟩ := if_inv h
    have h := qN_inv h
    subst h
    refine W.last (g := F0 m pc lsA (.long x :: .int i :: .ref (base + a) :: r.map (cv base))) hx hb (ab_cJ hR.2.2.1 hk) (ab_arr21 hK _ (fun j => .long (mJ M a j))) (fun q => by cases q) (by show ¬ (i < 0 ∨ (arrV _ _ _).slots.size ≤ _); rw [arrV_size]; exact hin) rfl rfl (dec1 0 hd rfl) (fun H1 e1 z oq => ?_)
    refine k H1 _ lsA cells slots ⟨hR.1, hR.2.1, hR.2.2.1.upd a rfl rfl rfl (fun b hb => rfl) (fun b hb => mJ_wJ_ne hb) (fun b hb => rfl) z oq ?_, hR.2.2.2.upd z oq⟩ rfl rfl
    refine ab_cJ' hk ?_
    rw [e1, vp_cell_l, vp_cell_l, arrV_store]
    show some (arrV _ (mN M a) _) = some (arrV _ (mN M a) _)
    congr 2
    funext q
    by_cases hq : q = i.toNatClampNeg
    · subst hq
      have e9 : mJ (wJ M a i.toNatClampNeg x) a i.toNatClampNeg = x := by
        show u2 _ _ _ _ a _ = _
        rw [u2, if_pos ⟨rfl, rfl⟩]
      rw [e9]
      simp only [updV, if_pos]
    · have e9 : mJ (wJ M a i.toNatClampNeg x) a q = mJ M a q := by
        show u2 _ _ _ _ a _ = _
        rw [u2, if_neg (fun e => hq e.2)]
      rw [e9]
      simp [updV, hq]
  next => cases h

set_option maxHeartbeats 1000000 in
theorem st_aastore (hC : ab_Cx p R s m args meth c D dA base mi) (hd : lkC mi pc = some (.aastore)) (hR : ab_Rl s D dA base mi ls M H locs lsA) {q : Nat × ab_L × List Value × ab_M} (h : stp mi pc (.aastore) ls st M = some (.inl q)) (hc : cells + mZ q.2.2.2 ≤ R.cells + mZ M) (hs : slots + mS q.2.2.2 ≤ R.slots + mS M) (k : ab_Nx p l e R s m args below meth c Q D dA base mi cells slots M q) : W p l e R s m args below meth c H locs cells slots Q (F0 m pc lsA (st.map (cv base))) := by
  obtain ⟨hx, hb, hr, hml, hown, hts, hK, hlocks, hnm, hfr, hlo⟩ := hC
  simp only [stp] at h
  split at h
  next v i a r =>
    obtain ⟨⟨hk, hin, hk7⟩, h⟩ := if_inv h
    have h := qN_inv h
    subst h
    have hlt : i.toNatClampNeg < mN M a := Nat.not_le.mp fun q => hin (Or.inr q)
    have h0 : ¬ i < 0 := fun q => hin (Or.inl q)
    obtain ⟨cellV, g1, g2, g3, -⟩ := ab_cO hR.2.2.1 hk7 (by decide)
    have hcls := (hK.1.1 7 (RX7, TX7, 6) rfl).2
    obtain ⟨kA, comp, k1, k2, k3, -⟩ := (hK.1.2 3 _ rfl).2
    have hcomp : comp = D.1 7 := Option.some.inj (k3.symm.trans hcls.1)
    subst hcomp
    obtain ⟨kC, hkC, -⟩ := hcls.2
    refine W.aast (g := F0 m pc lsA (.ref (base + v) :: .int i :: .ref (base + a) :: r.map (cv base))) hx hb (ab_cQ hR.2.2.1 hk) (fun q h => by cases h) (fun h => by cases h) k1 k2 rfl hkC ⟨h0, by show _ < (arrV _ _ _).slots.size; rw [arrV_size]; exact hlt⟩ g1 (fun q h => by rw [g3] at h; cases h) (by rw [g2]; exact hkC) (by rw [g2]; exact va_assign hcls) rfl rfl (dec1 0 hd rfl) (fun H1 e1 z oq => ?_)
    refine k H1 _ lsA cells slots ⟨hR.1, hR.2.1, hR.2.2.1.upd a rfl rfl rfl (fun b hb => rfl) (fun b hb => rfl) (fun b hb => mR_wR_ne hb) z oq ?_, hR.2.2.2.upd z oq⟩ rfl rfl
    refine ab_cQ' hk ?_
    rw [e1, vp_cell_q, vp_cell_q, arrV_store]
    show some (arrV _ (mN M a) _) = some (arrV _ (mN M a) _)
    congr 2
    funext q
    by_cases hq : q = i.toNatClampNeg
    · subst hq
      have e9 : mR (wR M a i.toNatClampNeg (some v)) a i.toNatClampNeg = some v := by
        show u2 _ _ _ _ a _ = _
        rw [u2, if_pos ⟨rfl, rfl⟩]
      rw [e9]
      simp only [updV, if_pos]
      rfl
    · have e9 : mR (wR M a i.toNatClampNeg (some v)) a q = mR M a q := by
        show u2 _ _ _ _ a _ = _
        rw [u2, if_neg (fun e => hq e.2)]
      rw [e9]
      simp [updV, hq]
  next => cases h

set_option maxHeartbeats 1000000 in
theorem st_new {i : Nat} (hC : ab_Cx p R s m args meth c D dA base mi) (hd : lkC mi pc = some (.new i)) (hR : ab_Rl s D dA base mi ls M H locs lsA) {q : Nat × ab_L × List Value × ab_M} (h : stp mi pc (.new i) ls st M = some (.inl q)) (hc : cells + mZ q.2.2.2 ≤ R.cells + mZ M) (hs : slots + mS q.2.2.2 ≤ R.slots + mS M) (k : ab_Nx p l e R s m args below meth c Q D dA base mi cells slots M q) : W p l e R s m args below meth c H locs cells slots Q (F0 m pc lsA (st.map (cv base))) := by
  obtain ⟨hx, hb, hr, hml, hown, hts, hK, hlocks, hnm, hfr, hlo⟩ := hC
  simp only [stp] at h
  split at h
  next ci hl =>
    have h := qN_inv h
    subst h
    obtain ⟨C, T, N, hcl, h1, h2, h3, hnF⟩ := lkN_ok hl
    obtain ⟨h12, -, hall, -⟩ := ab_cl_ok _ _ _ _ hcl
    have hKn := hK.1.1 ci _ hcl
    have hzz : mZ (mNew M ci 0 (ab_nF ci)) = mZ M + 1 := rfl
    have hss : mS (mNew M ci 0 (ab_nF ci)) = mS M + ab_nF ci := rfl
    dsimp only at hc hs
    have hsz := hR.2.2.1.1
    refine W.newcK (g := F0 m pc lsA (st.map (cv base))) hx hb hown (hts _ (List.mem_cons_of_mem _ h1)) (hts _ (List.mem_cons_of_mem _ h2)) (hts _ (List.mem_cons_of_mem _ h3)) rfl (dec1 2 hd rfl) (by omega) (by omega) hKn.2.1 hsz (fun H1 kC hkC e1 z1 o1 => ?_)
    have o1' : ∀ q : Nat, q < H.size → H1[q]? = H[q]? := fun q hq => o1 q (by omega)
    refine k H1 locs lsA _ _ ⟨hR.1, hR.2.1, hR.2.2.1.new (by omega) o1' ?_, hR.2.2.2.new (by omega) (by omega) o1'⟩ (by dsimp only; omega) (by dsimp only; omega)
    refine ab_cO' (ci := ci) (if_pos rfl) h12 ?_
    have hin : ∀ w ∈ u_ws C T N, w ∈ ab_wsM mi := fun w hw => List.mem_cons_of_mem _ (ab_i0 _ (List.mem_of_getElem? hcl) w hw)
    have hpar : ∀ k, k < N → parseFieldDescriptor (T k).2.2.1 = some ((parseFieldDescriptor (T k).2.2.1).getD .int) := by
      intro k hk
      have h1 := hall k hk
      cases hp : parseFieldDescriptor (T k).2.2.1 with
      | none => rw [hp] at h1; unfold ab_okT at h1; split at h1 <;> simp_all
      | some ty => rfl
    rw [hnF]
    refine (u_born (fun k => (parseFieldDescriptor (T k).2.2.1).getD .int) hts hin hKn hkC e1 hpar).to (fun j hj => ?_)
    have h1 := hall j hj
    have hI0 : mI (mNew M ci 0 (ab_nF ci)) (mZ M) j = 0 := congrFun (if_pos rfl : mI (mNew M ci 0 (ab_nF ci)) (mZ M) = fun _ => 0) j
    have hR0 : mR (mNew M ci 0 (ab_nF ci)) (mZ M) j = none := congrFun (if_pos rfl : mR (mNew M ci 0 (ab_nF ci)) (mZ M) = fun _ => none) j
    have h2 := hpar j hj
    rw [h2] at h1
    rcases okT_lt h1 with e | e | e
    · rw [e] at h1
      have h3 := okT_0 h1
      rw [Option.some.injEq] at h3
      rw [h3, e]
      show _ = cv base (Value.int (mI (mNew M ci 0 (ab_nF ci)) (mZ M) j))
      rw [hI0]
      rfl
    · rw [e] at h1
      have h3 := okT_1 h1
      rw [Option.some.injEq] at h3
      rw [h3, e]
      show _ = cv base (Value.int (mI (mNew M ci 0 (ab_nF ci)) (mZ M) j))
      rw [hI0]
      rfl
    · rw [e] at h1
      show _ = cv base (fvl (mNew M ci 0 (ab_nF ci)) (mZ M) j (ab_ft ci j))
      rw [e]
      show _ = cv base (va_rf (mR (mNew M ci 0 (ab_nF ci)) (mZ M) j))
      rw [hR0]
      rcases okT_2 h1 with ⟨n, h3⟩ | ⟨n, h3⟩
      · rw [Option.some.injEq] at h3
        rw [h3]
        rfl
      · rw [Option.some.injEq] at h3
        rw [h3]
        rfl
  next => cases h

set_option maxHeartbeats 1000000 in
theorem st_newarray_int (hC : ab_Cx p R s m args meth c D dA base mi) (hd : lkC mi pc = some (.newarray .int)) (hR : ab_Rl s D dA base mi ls M H locs lsA) {q : Nat × ab_L × List Value × ab_M} (h : stp mi pc (.newarray .int) ls st M = some (.inl q)) (hc : cells + mZ q.2.2.2 ≤ R.cells + mZ M) (hs : slots + mS q.2.2.2 ≤ R.slots + mS M) (k : ab_Nx p l e R s m args below meth c Q D dA base mi cells slots M q) : W p l e R s m args below meth c H locs cells slots Q (F0 m pc lsA (st.map (cv base))) := by
  obtain ⟨hx, hb, hr, hml, hown, hts, hK, hlocks, hnm, hfr, hlo⟩ := hC
  obtain ⟨n, r, e0, h0⟩ := qI_inv h
  subst e0
  clear h
  obtain ⟨⟨hn0, hn⟩, h⟩ := if_inv h0
  have h := qN_inv h
  subst h
  have hsz := hR.2.2.1.1
  have hzz : mZ (mNew M 20 n.toNatClampNeg n.toNatClampNeg) = mZ M + 1 := rfl
  have hss : mS (mNew M 20 n.toNatClampNeg n.toNatClampNeg) = mS M + n.toNatClampNeg := rfl
  dsimp only at hc hs
  refine va_newaK (g := F0 m pc lsA (.int n :: r.map (cv base))) (atype := .int) (N := n.toNatClampNeg) hx hb (hts (.arrayClass .int) ?_) rfl (dec1 1 hd rfl) rfl hn0 rfl ?_ (by omega) (by omega) hsz (fun H1 cA e1 z1 o1 hAr hNm => ?_)
  · exact List.mem_cons_of_mem _ (List.mem_filter.mpr ⟨List.mem_of_getElem? (i := 85) (by decide +kernel), rfl⟩)
  · have : componentBytes .int ≤ 8 := by decide
    show n.toNatClampNeg * componentBytes .int ≤ _
    have h9 : n.toNatClampNeg * componentBytes .int ≤ 1000 * 8 := Nat.mul_le_mul hn this
    exact Nat.le_trans h9 (Nat.le_of_ble_eq_true rfl)
  have o1' : ∀ q : Nat, q < H.size → H1[q]? = H[q]? := fun q hq => o1 q (by omega)
  refine k H1 locs lsA _ _ ⟨hR.1, hR.2.1, hR.2.2.1.new (by omega) o1' ?_, hR.2.2.2.new (by omega) (by omega) o1'⟩ (by dsimp only; omega) (by dsimp only; omega)
  have hcA : cA = dA 20 := Option.some.inj (hNm.symm.trans (hK.1.2 0 _ rfl).2)
  subst hcA
  refine ab_cI' (kd := 20) (if_pos rfl) (by decide) ?_
  rw [e1, vp_cell_i]
  have hN : mN (mNew M 20 n.toNatClampNeg n.toNatClampNeg) (mZ M) = n.toNatClampNeg := if_pos rfl
  rw [hN]
  have hI : ∀ j, mI (mNew M 20 n.toNatClampNeg n.toNatClampNeg) (mZ M) j = 0 := fun j => congrFun (if_pos rfl : mI (mNew M 20 n.toNatClampNeg n.toNatClampNeg) (mZ M) = fun _ => 0) j
  show some (arrV _ _ _) = some (arrV _ _ _)
  congr 2
  funext j
  rw [hI]
  rfl

set_option maxHeartbeats 1000000 in
theorem st_newarray_long (hC : ab_Cx p R s m args meth c D dA base mi) (hd : lkC mi pc = some (.newarray .long)) (hR : ab_Rl s D dA base mi ls M H locs lsA) {q : Nat × ab_L × List Value × ab_M} (h : stp mi pc (.newarray .long) ls st M = some (.inl q)) (hc : cells + mZ q.2.2.2 ≤ R.cells + mZ M) (hs : slots + mS q.2.2.2 ≤ R.slots + mS M) (k : ab_Nx p l e R s m args below meth c Q D dA base mi cells slots M q) : W p l e R s m args below meth c H locs cells slots Q (F0 m pc lsA (st.map (cv base))) := by
  obtain ⟨hx, hb, hr, hml, hown, hts, hK, hlocks, hnm, hfr, hlo⟩ := hC
  obtain ⟨n, r, e0, h0⟩ := qI_inv h
  subst e0
  clear h
  obtain ⟨⟨hn0, hn⟩, h⟩ := if_inv h0
  have h := qN_inv h
  subst h
  have hsz := hR.2.2.1.1
  have hzz : mZ (mNew M 21 n.toNatClampNeg n.toNatClampNeg) = mZ M + 1 := rfl
  have hss : mS (mNew M 21 n.toNatClampNeg n.toNatClampNeg) = mS M + n.toNatClampNeg := rfl
  dsimp only at hc hs
  refine va_newaK (g := F0 m pc lsA (.int n :: r.map (cv base))) (atype := .long) (N := n.toNatClampNeg) hx hb (hts (.arrayClass .long) ?_) rfl (dec1 1 hd rfl) rfl hn0 rfl ?_ (by omega) (by omega) hsz (fun H1 cA e1 z1 o1 hAr hNm => ?_)
  · exact List.mem_cons_of_mem _ (List.mem_filter.mpr ⟨List.mem_of_getElem? (i := 287) (by decide +kernel), rfl⟩)
  · have : componentBytes .long ≤ 8 := by decide
    show n.toNatClampNeg * componentBytes .long ≤ _
    have h9 : n.toNatClampNeg * componentBytes .long ≤ 1000 * 8 := Nat.mul_le_mul hn this
    exact Nat.le_trans h9 (Nat.le_of_ble_eq_true rfl)
  have o1' : ∀ q : Nat, q < H.size → H1[q]? = H[q]? := fun q hq => o1 q (by omega)
  refine k H1 locs lsA _ _ ⟨hR.1, hR.2.1, hR.2.2.1.new (by omega) o1' ?_, hR.2.2.2.new (by omega) (by omega) o1'⟩ (by dsimp only; omega) (by dsimp only; omega)
  have hcA : cA = dA 21 := Option.some.inj (hNm.symm.trans (hK.1.2 1 _ rfl).2)
  subst hcA
  refine ab_cJ' (if_pos rfl) ?_
  rw [e1, vp_cell_l]
  have hN : mN (mNew M 21 n.toNatClampNeg n.toNatClampNeg) (mZ M) = n.toNatClampNeg := if_pos rfl
  rw [hN]
  have hI : ∀ j, mJ (mNew M 21 n.toNatClampNeg n.toNatClampNeg) (mZ M) j = 0 := fun j => congrFun (if_pos rfl : mJ (mNew M 21 n.toNatClampNeg n.toNatClampNeg) (mZ M) = fun _ => 0) j
  show some (arrV _ _ _) = some (arrV _ _ _)
  congr 2
  funext j
  rw [hI]
  rfl

set_option maxHeartbeats 1000000 in
theorem st_newarray_boolean (hC : ab_Cx p R s m args meth c D dA base mi) (hd : lkC mi pc = some (.newarray .boolean)) (hR : ab_Rl s D dA base mi ls M H locs lsA) {q : Nat × ab_L × List Value × ab_M} (h : stp mi pc (.newarray .boolean) ls st M = some (.inl q)) (hc : cells + mZ q.2.2.2 ≤ R.cells + mZ M) (hs : slots + mS q.2.2.2 ≤ R.slots + mS M) (k : ab_Nx p l e R s m args below meth c Q D dA base mi cells slots M q) : W p l e R s m args below meth c H locs cells slots Q (F0 m pc lsA (st.map (cv base))) := by
  obtain ⟨hx, hb, hr, hml, hown, hts, hK, hlocks, hnm, hfr, hlo⟩ := hC
  obtain ⟨n, r, e0, h0⟩ := qI_inv h
  subst e0
  clear h
  obtain ⟨⟨hn0, hn⟩, h⟩ := if_inv h0
  have h := qN_inv h
  subst h
  have hsz := hR.2.2.1.1
  have hzz : mZ (mNew M 22 n.toNatClampNeg n.toNatClampNeg) = mZ M + 1 := rfl
  have hss : mS (mNew M 22 n.toNatClampNeg n.toNatClampNeg) = mS M + n.toNatClampNeg := rfl
  dsimp only at hc hs
  refine va_newaK (g := F0 m pc lsA (.int n :: r.map (cv base))) (atype := .boolean) (N := n.toNatClampNeg) hx hb (hts (.arrayClass .boolean) ?_) rfl (dec1 1 hd rfl) rfl hn0 rfl ?_ (by omega) (by omega) hsz (fun H1 cA e1 z1 o1 hAr hNm => ?_)
  · exact List.mem_cons_of_mem _ (List.mem_filter.mpr ⟨List.mem_of_getElem? (i := 928) (by decide +kernel), rfl⟩)
  · have : componentBytes .boolean ≤ 8 := by decide
    show n.toNatClampNeg * componentBytes .boolean ≤ _
    have h9 : n.toNatClampNeg * componentBytes .boolean ≤ 1000 * 8 := Nat.mul_le_mul hn this
    exact Nat.le_trans h9 (Nat.le_of_ble_eq_true rfl)
  have o1' : ∀ q : Nat, q < H.size → H1[q]? = H[q]? := fun q hq => o1 q (by omega)
  refine k H1 locs lsA _ _ ⟨hR.1, hR.2.1, hR.2.2.1.new (by omega) o1' ?_, hR.2.2.2.new (by omega) (by omega) o1'⟩ (by dsimp only; omega) (by dsimp only; omega)
  have hcA : cA = dA 22 := Option.some.inj (hNm.symm.trans (hK.1.2 2 _ rfl).2)
  subst hcA
  refine ab_cI' (kd := 22) (if_pos rfl) (by decide) ?_
  rw [e1, vp_cell_i]
  have hN : mN (mNew M 22 n.toNatClampNeg n.toNatClampNeg) (mZ M) = n.toNatClampNeg := if_pos rfl
  rw [hN]
  have hI : ∀ j, mI (mNew M 22 n.toNatClampNeg n.toNatClampNeg) (mZ M) j = 0 := fun j => congrFun (if_pos rfl : mI (mNew M 22 n.toNatClampNeg n.toNatClampNeg) (mZ M) = fun _ => 0) j
  show some (arrV _ _ _) = some (arrV _ _ _)
  congr 2
  funext j
  rw [hI]
  rfl

set_option maxHeartbeats 1000000 in
theorem st_anewarray {i : Nat} (hC : ab_Cx p R s m args meth c D dA base mi) (hd : lkC mi pc = some (.anewarray i)) (hR : ab_Rl s D dA base mi ls M H locs lsA) {q : Nat × ab_L × List Value × ab_M} (h : stp mi pc (.anewarray i) ls st M = some (.inl q)) (hc : cells + mZ q.2.2.2 ≤ R.cells + mZ M) (hs : slots + mS q.2.2.2 ≤ R.slots + mS M) (k : ab_Nx p l e R s m args below meth c Q D dA base mi cells slots M q) : W p l e R s m args below meth c H locs cells slots Q (F0 m pc lsA (st.map (cv base))) := by
  obtain ⟨hx, hb, hr, hml, hown, hts, hK, hlocks, hnm, hfr, hlo⟩ := hC
  simp only [stp] at h
  split at h
  next hl =>
    obtain ⟨n, r, e0, h0⟩ := qI_inv h
    subst e0
    clear h
    obtain ⟨⟨hn0, hn⟩, h⟩ := if_inv h0
    have h := qN_inv h
    subst h
    obtain ⟨C, T, N, hcl, h1, h2, h3, hnF⟩ := lkN_ok hl
    have hcl' : (C, T, N) = (RX7, TX7, 6) := (Option.some.inj hcl).symm
    cases hcl'
    have hsz := hR.2.2.1.1
    have hzz : mZ (mNew M 23 n.toNatClampNeg n.toNatClampNeg) = mZ M + 1 := rfl
    have hss : mS (mNew M 23 n.toNatClampNeg n.toNatClampNeg) = mS M + n.toNatClampNeg := rfl
    dsimp only at hc hs
    refine W.anew (C := RX7) (g := F0 m pc lsA (.int n :: r.map (cv base))) hx hb hown (hts _ (List.mem_cons_of_mem _ h1)) (va_AO.use hK.2.2) rfl (dec1 2 hd rfl) rfl hn0 (by omega) (by omega) (by omega) (fun cA kA comp f1 f2 f3 f4 => ?_)
    generalize hH1 : H.push ({ cls := cA, slots := Array.replicate n.toNatClampNeg .null, vm := .none } : Cell) = H1
    have z1 : H1.size = H.size + 1 := by rw [← hH1, Array.size_push]
    have e1 : H1[H.size]? = some (arrV cA n.toNatClampNeg (fun _ => .null)) := by rw [← hH1, Array.getElem?_push_size, ← arrV_new]
    have o1' : ∀ q : Nat, q < H.size → H1[q]? = H[q]? := fun q hq => by rw [← hH1, Array.getElem?_push, if_neg (Nat.ne_of_lt hq)]
    have hk9 : W p l e R s m args below meth c H1 locs (cells + 1) (slots + n.toNatClampNeg) Q (F0 m (pc + 3) lsA (.ref (base + mZ M) :: r.map (cv base))) := by
      refine k H1 locs lsA _ _ ⟨hR.1, hR.2.1, hR.2.2.1.new z1 o1' ?_, hR.2.2.2.new (by omega) z1 o1'⟩ (by dsimp only; omega) (by dsimp only; omega)
      obtain ⟨_, _, _, _, _, hq⟩ := (hK.1.2 3 _ rfl).2
      have hcA : cA = dA 23 := Option.some.inj (f1.symm.trans hq)
      subst hcA
      refine ab_cQ' (if_pos rfl) ?_
      rw [← hsz, e1, vp_cell_q]
      have hN : mN (mNew M 23 n.toNatClampNeg n.toNatClampNeg) (mZ M) = n.toNatClampNeg := if_pos rfl
      rw [hN]
      show some (arrV _ _ _) = some (arrV _ _ _)
      congr 2
      funext j
      have hI : mR (mNew M 23 n.toNatClampNeg n.toNatClampNeg) (mZ M) j = none := congrFun (if_pos rfl : mR (mNew M 23 n.toNatClampNeg n.toNatClampNeg) (mZ M) = fun _ => none) j
      rw [hI]
      rfl
    rw [← hsz] at hk9
    exact hk9
  next => cases h

set_option maxHeartbeats 1000000 in
theorem ab_copy (hC : ab_Cx p R s m args meth c D dA base mi) {i a b : Nat} {sp dp n : Int32} {r : List Value} (hd : lkC mi pc = some (.invokestatic i)) (hR : ab_Rl s D dA base mi ls M H locs lsA) (hw : Cond.methodLink (ab_oN (ab_o mi)) i arraycopyName ∈ ab_W ∧ Cond.native arraycopyName ∈ ab_W ∧ Cond.static arraycopyName ∈ ab_W ∧ Cond.initialized "java/lang/System" ∈ ab_W)
    (hka : mK M a = 20) (hkb : mK M b = 20) (h1 : ¬ sp < 0) (h2 : ¬ dp < 0) (h3 : ¬ n < 0) (h4 : sp.toNatClampNeg + n.toNatClampNeg ≤ mN M a) (h5 : dp.toNatClampNeg + n.toNatClampNeg ≤ mN M b) (h6 : okR 8 r = true)
    (k : ab_Nx p l e R s m args below meth c Q D dA base mi cells slots M (pc + 3, ls, r, mCpy M a sp.toNatClampNeg b dp.toNatClampNeg n.toNatClampNeg)) : W p l e R s m args below meth c H locs cells slots Q (F0 m pc lsA (.int n :: .int dp :: .ref (base + b) :: .int sp :: .ref (base + a) :: r.map (cv base))) := by
  obtain ⟨hx, hb, hr, hml, hown, hts, hK, hlocks, hnm, hfr, hlo⟩ := hC
  have nn : ∀ z : Int32, ¬ z < 0 → z.toInt = (z.toNatClampNeg : Int) := by
    intro z hz
    have hz0 : (0 : Int) ≤ z.toInt := by
      have := Int32.not_lt.mp hz
      simpa using Int32.le_iff_toInt_le.mp this
    show z.toInt = ((z.toInt.toNat : Nat) : Int)
    omega
  have hc0 := ab_cI hR.2.2.1 hka (Or.inl rfl)
  have hc1 := ab_cI hR.2.2.1 hkb (Or.inl rfl)
  intro T hT X
  obtain ⟨-, k0, hk0, cm0, hkk0⟩ := (ab_arr20 hK) (mN M a) (fun j => .int (mI M a j))
  obtain ⟨-, k1, hk1, cm1, hkk1⟩ := (ab_arr20 hK) (mN M b) (fun j => .int (mI M b j))
  have hrs := okR_cv (base := base) h6
  have hnw : nativeFrameWords "java/lang/System" "arraycopy" 5 ≤ 30 := by decide +kernel
  obtain ⟨vm', X', step⟩ := X.arraycopy hx hown (hts _ (List.mem_cons_of_mem _ hw.1)) (hts _ (List.mem_cons_of_mem _ hw.2.1)) (hts _ (List.mem_cons_of_mem _ hw.2.2.1)) (hts _ (List.mem_cons_of_mem _ hw.2.2.2)) (src := base + a) (dst := base + b) (cs := vp_cell (dA 20) (mN M a, .inl (mI M a))) (cd := vp_cell (dA 20) (mN M b, .inl (mI M b))) (srcPos := sp) (destPos := dp) (n := n) (by rw [hT]; exact hc0) (by rw [hT]; exact hc1)
    (fun _ h => by cases h) (fun _ h => by cases h) (fun h => by cases h) (fun h => by cases h) hk0 hk1 hkk0 hkk1 (by decide) h1 h2 h3
    (by rw [nn sp h1, nn n h3]; show ¬ _ > ((arrV (dA 20) (mN M a) (fun j => .int (mI M a j))).slots.size : Int); rw [arrV_size]; omega)
    (by rw [nn dp h2, nn n h3]; show ¬ _ > ((arrV (dA 20) (mN M b) (fun j => .int (mI M b j))).slots.size : Int); rw [arrV_size]; omega)
    (fun vm₁ _ i hi => by
      have e : (vp_cell (dA 20) (mN M a, .inl (mI M a))).slots.getD (sp.toNatClampNeg + i) .null = .int (mI M a (sp.toNatClampNeg + i)) := by
        show (arrV (dA 20) (mN M a) (fun j => .int (mI M a j))).slots.getD _ _ = _
        rw [Array.getD_eq_getD_getElem?, arrV_read _ _ (by omega)]
        rfl
      refine ⟨?_, ?_⟩
      · rw [e]
        rfl
      · rw [e]
        exact trivial)
    (g := F0 m pc lsA (.int n :: .int dp :: .ref (base + b) :: .int sp :: .ref (base + a) :: r.map (cv base))) rfl (by rw [hml]; exact hR.1.1) (rest := r.map (cv base)) rfl (by rw [hb]; exact dec1 2 hd rfl) hfr (by show 2 * 0 + _ + _ ≤ _; omega)
  have e1 : copied (vp_cell (dA 20) (mN M a, .inl (mI M a))) (vp_cell (dA 20) (mN M b, .inl (mI M b))) sp dp n = vp_cell (dA 20) (mN M b, .inl (va_cpy (mI M a) (mI M b) sp.toNatClampNeg dp.toNatClampNeg n.toNatClampNeg)) := va_copied (fun z => .int z) _ _ (mI M a) (mI M b) h4
  rw [e1] at X' step
  have hlb : base + b < H.size := (Array.getElem?_eq_some_iff.mp hc1).1
  have hheap : ((T.setVm vm').setCell (base + b) (vp_cell (dA 20) (mN M b, .inl (va_cpy (mI M a) (mI M b) sp.toNatClampNeg dp.toNatClampNeg n.toNatClampNeg)))).heap = H.setIfInBounds (base + b) (vp_cell (dA 20) (mN M b, .inl (va_cpy (mI M a) (mI M b) sp.toNatClampNeg dp.toNatClampNeg n.toNatClampNeg))) := by rw [← hT]; rfl
  generalize hH1 : H.setIfInBounds (base + b) (vp_cell (dA 20) (mN M b, .inl (va_cpy (mI M a) (mI M b) sp.toNatClampNeg dp.toNatClampNeg n.toNatClampNeg))) = H1 at hheap
  have z : H1.size = H.size := by rw [← hH1]; simp
  have oq : ∀ q : Nat, q ≠ base + b → H1[q]? = H[q]? := fun q hq => by rw [← hH1]; simp [Array.getElem?_setIfInBounds, Ne.symm hq]
  have eb : H1[base + b]? = some (vp_cell (dA 20) (mN M b, .inl (va_cpy (mI M a) (mI M b) sp.toNatClampNeg dp.toNatClampNeg n.toNatClampNeg))) := by rw [← hH1]; simp [Array.getElem?_setIfInBounds, hlb]
  have hcm : mI (mCpy M a sp.toNatClampNeg b dp.toNatClampNeg n.toNatClampNeg) b = va_cpy (mI M a) (mI M b) sp.toNatClampNeg dp.toNatClampNeg n.toNatClampNeg := by
    show u1 _ _ _ b = _
    rw [u1, if_pos rfl]
    rfl
  obtain ⟨t, a1, b1⟩ := k H1 _ lsA cells slots ⟨hR.1, hR.2.1, hR.2.2.1.upd b rfl rfl rfl (fun q hq => if_neg hq) (fun q hq => rfl) (fun q hq => rfl) z oq (ab_cI' (kd := 20) hkb (by decide) (by rw [hcm]; exact eb)), ⟨by rw [z]; exact hR.2.2.2.1, fun q hq => (oq q (by omega)).trans (hR.2.2.2.2.1 q hq), fun q hq => by
      rcases List.mem_append.mp hq with h | h
      · exact hR.2.2.2.2.2 q h
      · obtain ⟨z, -, hz⟩ := List.mem_map.mp h
        rw [← hz]
        exact Nat.le_add_right _ _⟩⟩ rfl rfl _ hheap X'
  exact ⟨t, step t a1, b1⟩

set_option maxHeartbeats 1000000 in
theorem st_invokespecial {i : Nat} (hC : ab_Cx p R s m args meth c D dA base mi) (hd : lkC mi pc = some (.invokespecial i)) (hR : ab_Rl s D dA base mi ls M H locs lsA) {q : Nat × ab_L × List Value × ab_M} (h : stp mi pc (.invokespecial i) ls st M = some (.inl q)) (hc : cells + mZ q.2.2.2 ≤ R.cells + mZ M) (hs : slots + mS q.2.2.2 ≤ R.slots + mS M) (k : ab_Nx p l e R s m args below meth c Q D dA base mi cells slots M q) : W p l e R s m args below meth c H locs cells slots Q (F0 m pc lsA (st.map (cv base))) := by
  obtain ⟨hx, hb, hr, hml, hown, hts, hK, hlocks, hnm, hfr, hlo⟩ := hC
  have h0 : bSp pc ls M mi i st = some (.inl q) := h
  clear h
  have h := h0
  clear h0
  unfold bSp at h
  split at h
  next y n hl =>
    split at h
    next a r =>
      obtain ⟨h0, h⟩ := if_inv h
      have h := qN_inv h
      subst h
      obtain ⟨pl, p1, p2, p3, ho⟩ := lkY_ok hl
      simp only [ab_okY, Bool.and_eq_true] at ho
      obtain ⟨o1, o2, o3⟩ := ho
      have hrs := okR_cv (base := base) h0
      exact W.objInit (g := F0 m pc lsA (.ref (base + a) :: r.map (cv base))) hx hb hown (hts _ (List.mem_cons_of_mem _ (ab_inW_mem o1))) (hts _ (List.mem_cons_of_mem _ (ab_inW_mem o2))) (hts _ (List.mem_cons_of_mem _ (ab_inW_mem o3))) rfl (by rw [hml]; exact hR.1.1) rfl (dec1 2 hd rfl) hfr (by show 2 * 0 + _ + _ ≤ _; omega) (k H locs lsA cells slots hR rfl rfl)
    next => cases h
  next y n hl =>
    split at h
    next => unfold bCall at h; split at h <;> cases h
    next => cases h
  next y n hl =>
    split at h
    next => unfold bCall at h; split at h <;> cases h
    next => cases h
  next => cases h

set_option maxHeartbeats 1000000 in
theorem st_invokestatic {i : Nat} (hC : ab_Cx p R s m args meth c D dA base mi) (hd : lkC mi pc = some (.invokestatic i)) (hR : ab_Rl s D dA base mi ls M H locs lsA) {q : Nat × ab_L × List Value × ab_M} (h : stp mi pc (.invokestatic i) ls st M = some (.inl q)) (hc : cells + mZ q.2.2.2 ≤ R.cells + mZ M) (hs : slots + mS q.2.2.2 ≤ R.slots + mS M) (k : ab_Nx p l e R s m args below meth c Q D dA base mi cells slots M q) : W p l e R s m args below meth c H locs cells slots Q (F0 m pc lsA (st.map (cv base))) := by
  obtain ⟨hx, hb, hr, hml, hown, hts, hK, hlocks, hnm, hfr, hlo⟩ := hC
  have hC : ab_Cx p R s m args meth c D dA base mi := ⟨hx, hb, hr, hml, hown, hts, hK, hlocks, hnm, hfr, hlo⟩
  have h0 : bSt pc ls M mi i st = some (.inl q) := h
  clear h
  have h := h0
  clear h0
  unfold bSt at h
  split at h
  next y n hl =>
    split at h
    next => unfold bCall at h; split at h <;> cases h
    next => cases h
  next y n hl =>
    split at h
    next => unfold bCall at h; split at h <;> cases h
    next => cases h
  next y n hl =>
    split at h
    next n dp b sp a r =>
      obtain ⟨⟨g1, g2, g3, g4, g5, g6, g7, g8, g9⟩, h⟩ := if_inv h
      have h := qN_inv h
      subst h
      obtain ⟨pl, p1, p2, p3, ho⟩ := lkY_ok hl
      simp only [ab_okY, Bool.and_eq_true] at ho
      obtain ⟨o1, o2, o3, o4⟩ := ho
      exact ab_copy hC hd hR ⟨ab_inW_mem o1, ab_inW_mem o2, ab_inW_mem o3, ab_inW_mem o4⟩ g1 g2 g4 g5 g6 g7 g8 g9 k
    next => cases h
  next y n hl =>
    split at h
    next x r =>
      obtain ⟨h0, h⟩ := if_inv h
      have h := qN_inv h
      subst h
      obtain ⟨pl, p1, p2, p3, ho⟩ := lkY_ok hl
      simp only [ab_okY, Bool.and_eq_true] at ho
      obtain ⟨o1, o2, o3, o4⟩ := ho
      have hrs := okR_cv (base := base) h0
      dsimp only at hc hs
      exact va_mabs hx hb (by rw [hml]; exact hR.1.1.symm) hown (hts _ (List.mem_cons_of_mem _ (ab_inW_mem o1))) (hts _ (List.mem_cons_of_mem _ (ab_inW_mem o2))) (hts _ (List.mem_cons_of_mem _ (ab_inW_mem o3))) (hts _ (List.mem_cons_of_mem _ (ab_inW_mem o4))) hfr (by omega) (by omega) (by omega) (dec1 2 hd rfl) (k H locs lsA cells slots hR rfl rfl)
    next => cases h
  next y n hl =>
    split at h
    next y x r =>
      obtain ⟨h0, h⟩ := if_inv h
      have h := qN_inv h
      subst h
      obtain ⟨pl, p1, p2, p3, ho⟩ := lkY_ok hl
      simp only [ab_okY, Bool.and_eq_true] at ho
      obtain ⟨o1, o2, o3, o4⟩ := ho
      have hrs := okR_cv (base := base) h0
      dsimp only at hc hs
      exact va_mmin hx hb (by rw [hml]; exact hR.1.1.symm) hown (hts _ (List.mem_cons_of_mem _ (ab_inW_mem o1))) (hts _ (List.mem_cons_of_mem _ (ab_inW_mem o2))) (hts _ (List.mem_cons_of_mem _ (ab_inW_mem o3))) (hts _ (List.mem_cons_of_mem _ (ab_inW_mem o4))) hfr (by omega) (by omega) (by omega) (dec1 2 hd rfl) (k H locs lsA cells slots hR rfl rfl)
    next => cases h
  next => cases h

set_option maxHeartbeats 4000000 in
theorem ab_step {ins : Instr} (hC : ab_Cx p R s m args meth c D dA base mi) (hd : lkC mi pc = some ins) (hR : ab_Rl s D dA base mi ls M H locs lsA) {q : Nat × ab_L × List Value × ab_M} (h : stp mi pc ins ls st M = some (.inl q)) (hc : cells + mZ q.2.2.2 ≤ R.cells + mZ M) (hs : slots + mS q.2.2.2 ≤ R.slots + mS M) (k : ab_Nx p l e R s m args below meth c Q D dA base mi cells slots M q) : W p l e R s m args below meth c H locs cells slots Q (F0 m pc lsA (st.map (cv base))) := by
  cases ins with
  | iconst x0 => exact st_iconst hC hd hR h hc hs k
  | bipush x0 => exact st_bipush hC hd hR h hc hs k
  | sipush x0 => exact st_sipush hC hd hR h hc hs k
  | lconst x0 => exact st_lconst hC hd hR h hc hs k
  | ldc x0 => exact st_ldc hC hd hR h hc hs k
  | ldc_w x0 => exact st_ldc_w hC hd hR h hc hs k
  | ldc2_w x0 => exact st_ldc2_w hC hd hR h hc hs k
  | iload x0 => exact st_iload hC hd hR h hc hs k
  | iload_n x0 => exact st_iload_n hC hd hR h hc hs k
  | lload x0 => exact st_lload hC hd hR h hc hs k
  | lload_n x0 => exact st_lload_n hC hd hR h hc hs k
  | aload x0 => exact st_aload hC hd hR h hc hs k
  | aload_n x0 => exact st_aload_n hC hd hR h hc hs k
  | istore x0 => exact st_istore hC hd hR h hc hs k
  | istore_n x0 => exact st_istore_n hC hd hR h hc hs k
  | lstore x0 => exact st_lstore hC hd hR h hc hs k
  | lstore_n x0 => exact st_lstore_n hC hd hR h hc hs k
  | astore x0 => exact st_astore hC hd hR h hc hs k
  | astore_n x0 => exact st_astore_n hC hd hR h hc hs k
  | iinc x0 x1 => exact st_iinc hC hd hR h hc hs k
  | iadd => exact st_iadd hC hd hR h hc hs k
  | isub => exact st_isub hC hd hR h hc hs k
  | imul => exact st_imul hC hd hR h hc hs k
  | iand => exact st_iand hC hd hR h hc hs k
  | ior => exact st_ior hC hd hR h hc hs k
  | ixor => exact st_ixor hC hd hR h hc hs k
  | ishl => exact st_ishl hC hd hR h hc hs k
  | ishr => exact st_ishr hC hd hR h hc hs k
  | idiv => exact st_idiv hC hd hR h hc hs k
  | irem => exact st_irem hC hd hR h hc hs k
  | iushr => exact st_iushr hC hd hR h hc hs k
  | ineg => exact st_ineg hC hd hR h hc hs k
  | ladd => exact st_ladd hC hd hR h hc hs k
  | lsub => exact st_lsub hC hd hR h hc hs k
  | lmul => exact st_lmul hC hd hR h hc hs k
  | ldiv => exact st_ldiv hC hd hR h hc hs k
  | lrem => exact st_lrem hC hd hR h hc hs k
  | lcmp => exact st_lcmp hC hd hR h hc hs k
  | i2l => exact st_i2l hC hd hR h hc hs k
  | l2i => exact st_l2i hC hd hR h hc hs k
  | dup => exact st_dup hC hd hR h hc hs k
  | pop => exact st_pop hC hd hR h hc hs k
  | dup2 => exact st_dup2 hC hd hR h hc hs k
  | goto x0 => exact st_goto hC hd hR h hc hs k
  | tableswitch x0 x1 x2 x3 => exact st_tableswitch hC hd hR h hc hs k
  | getfield x0 => exact st_getfield hC hd hR h hc hs k
  | putfield x0 => exact st_putfield hC hd hR h hc hs k
  | iaload => exact st_iaload hC hd hR h hc hs k
  | baload => exact st_baload hC hd hR h hc hs k
  | laload => exact st_laload hC hd hR h hc hs k
  | aaload => exact st_aaload hC hd hR h hc hs k
  | iastore => exact st_iastore hC hd hR h hc hs k
  | bastore => exact st_bastore hC hd hR h hc hs k
  | lastore => exact st_lastore hC hd hR h hc hs k
  | aastore => exact st_aastore hC hd hR h hc hs k
  | new x0 => exact st_new hC hd hR h hc hs k
  | anewarray x0 => exact st_anewarray hC hd hR h hc hs k
  | invokespecial x0 => exact st_invokespecial hC hd hR h hc hs k
  | invokestatic x0 => exact st_invokestatic hC hd hR h hc hs k
  | if_icmp cn off =>
    cases cn with
    | eq => exact st_if_icmp_eq hC hd hR h hc hs k
    | ne => exact st_if_icmp_ne hC hd hR h hc hs k
    | lt => exact st_if_icmp_lt hC hd hR h hc hs k
    | ge => exact st_if_icmp_ge hC hd hR h hc hs k
    | gt => exact st_if_icmp_gt hC hd hR h hc hs k
    | le => exact st_if_icmp_le hC hd hR h hc hs k
  | ifCond cn off =>
    cases cn with
    | eq => exact st_ifCond_eq hC hd hR h hc hs k
    | ne => exact st_ifCond_ne hC hd hR h hc hs k
    | lt => exact st_ifCond_lt hC hd hR h hc hs k
    | ge => exact st_ifCond_ge hC hd hR h hc hs k
    | gt => exact st_ifCond_gt hC hd hR h hc hs k
    | le => exact st_ifCond_le hC hd hR h hc hs k
  | newarray t =>
    cases t with
    | int => exact st_newarray_int hC hd hR h hc hs k
    | long => exact st_newarray_long hC hd hR h hc hs k
    | boolean => exact st_newarray_boolean hC hd hR h hc hs k
    | _ => cases h
  | invokevirtual i =>
    have h : bV M mi i st = some (.inl q) := h
    unfold bV at h
    split at h
    · split at h
      · obtain ⟨-, h⟩ := if_inv h
        unfold bCall at h
        split at h <;> cases h
      · cases h
    · cases h
  | ireturn =>
    simp only [stp] at h
    split at h
    · split at h
      · cases h
      · obtain ⟨-, h⟩ := if_inv h
        cases h
      · cases h
    · cases h
  | lreturn =>
    simp only [stp] at h
    split at h
    · split at h <;> cases h
    · cases h
  | areturn =>
    simp only [stp] at h
    split at h
    · split at h <;> cases h
    · cases h
  | return_ =>
    simp only [stp] at h
    split at h
    · split at h <;> cases h
    · cases h
  | _ => cases h

end AST
