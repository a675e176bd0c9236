/-! nurses: the first way, by numbers -/
def fsS (f : Nat → Option Nat) : Nat → Option Nat
  | 0 => none
  | n + 1 => match f (4 - n) with
    | some c => some c
    | none => fsS f n
def btN (W : Nat → Nat) (P : Nat) : Nat → Nat → Nat → Option Nat
  | 0, _, _ => some 0
  | m + 1, t, i => fsS (fun s => if bitB (W i) s && !bitB t s then (match btN W P m (seN t s) (i + 1) with | some c => some (s * P ^ m + c) | none => none) else none) 5
def okF (W D : Nat → Nat) : Nat → Nat → Nat → Bool
  | 0, _, _ => true
  | m + 1, t, i => (bitB (W i) (D i) && !bitB t (D i)) && okF W D m (seN t (D i)) (i + 1)
theorem okF_c {W D D1 : Nat → Nat} : ∀ m t i, (∀ x, i ≤ x → x < i + m → D x = D1 x) → okF W D m t i = okF W D1 m t i := by
  intro m
  induction m with
  | zero => intro t i _; rfl
  | succ m ih =>
    intro t i h
    unfold okF
    rw [h i (Nat.le_refl i) (by omega), ih _ _ (fun x h1 h2 => h x (by omega) (by omega))]
def dgt (P k c x : Nat) : Nat := c / P ^ (k - 1 - x) % P
theorem dgt_lo {P k m s c x : Nat} (hx : k - 1 - x < m) : dgt P k (s * P ^ m + c) x = dgt P k c x := by
  unfold dgt
  obtain ⟨e, he⟩ : ∃ e, m = (k - 1 - x) + (e + 1) := ⟨m - (k - 1 - x) - 1, by omega⟩
  rw [he]
  by_cases hP : P = 0
  · subst hP
    rw [Nat.zero_pow (n := k - 1 - x + (e + 1)) (by omega)]
    simp
  · have hpp : 0 < P ^ (k - 1 - x) := Nat.pow_pos (by omega)
    have e1 : s * P ^ (k - 1 - x + (e + 1)) + c = P ^ (k - 1 - x) * (P * (s * P ^ e)) + c := by
      rw [Nat.pow_add, Nat.pow_succ]
      congr 1
      rw [Nat.mul_comm s, Nat.mul_assoc, Nat.mul_comm (P ^ e) P, Nat.mul_assoc, Nat.mul_comm (P ^ e) s]
    rw [e1, Nat.mul_add_div hpp, Nat.mul_add_mod]
theorem dgt_hi {P k m s c x : Nat} (hx : k - 1 - x = m) (hs : s < P) (hc : c < P ^ m) : dgt P k (s * P ^ m + c) x = s := by
  unfold dgt
  rw [hx, Nat.mul_comm, Nat.mul_add_div (by omega), Nat.div_eq_of_lt hc, Nat.add_zero, Nat.mod_eq_of_lt hs]
/-- the search over one life's people -/
theorem fs_some {f : Nat → Option Nat} {c : Nat} : ∀ n, n ≤ 5 → fsS f n = some c → ∃ s, 5 - n ≤ s ∧ s < 5 ∧ f s = some c ∧ ∀ s', 5 - n ≤ s' → s' < s → f s' = none := by
  intro n
  induction n with
  | zero => intro _ h; simp [fsS] at h
  | succ n ih =>
    intro hn h
    unfold fsS at h
    cases hf : f (4 - n) with
    | some c1 =>
      rw [hf] at h
      simp at h
      subst h
      exact ⟨4 - n, by omega, by omega, hf, fun s' h1 h2 => by omega⟩
    | none =>
      rw [hf] at h
      simp at h
      obtain ⟨s, h1, h2, h3, h4⟩ := ih (by omega) h
      refine ⟨s, by omega, h2, h3, fun s' h5 h6 => ?_⟩
      by_cases e : s' = 4 - n
      · rw [e]; exact hf
      · exact h4 s' (by omega) h6
theorem fs_none {f : Nat → Option Nat} : ∀ n, n ≤ 5 → fsS f n = none → ∀ s, 5 - n ≤ s → s < 5 → f s = none := by
  intro n
  induction n with
  | zero => intro _ _ s h1 h2; omega
  | succ n ih =>
    intro hn h s h1 h2
    unfold fsS at h
    cases hf : f (4 - n) with
    | some c1 => rw [hf] at h; simp at h
    | none =>
      rw [hf] at h
      simp at h
      by_cases e : s = 4 - n
      · rw [e]; exact hf
      · exact ih (by omega) h s (by omega) h2
theorem okF_s {W : Nat → Nat} {P k m t i s c : Nat} (hk : i + (m + 1) = k) (hs : s < P) (hc : c < P ^ m) : okF W (dgt P k (s * P ^ m + c)) (m + 1) t i = ((bitB (W i) s && !bitB t s) && okF W (dgt P k c) m (seN t s) (i + 1)) := by
  show ((bitB (W i) (dgt P k (s * P ^ m + c) i) && !bitB t (dgt P k (s * P ^ m + c) i)) && okF W (dgt P k (s * P ^ m + c)) m (seN t (dgt P k (s * P ^ m + c) i)) (i + 1)) = _
  rw [dgt_hi (by omega) hs hc, okF_c (D1 := dgt P k c) m _ _ (fun x h1 h2 => dgt_lo (by omega))]
theorem bt_main {W : Nat → Nat} {P k : Nat} (hP : P ≤ 5) (hW : ∀ i, W i < 2 ^ P) : ∀ m t i, i + m = k → (∀ c, btN W P m t i = some c → c < P ^ m ∧ okF W (dgt P k c) m t i = true ∧ ∀ c', c' < c → okF W (dgt P k c') m t i = false) ∧ (btN W P m t i = none → ∀ c, c < P ^ m → okF W (dgt P k c) m t i = false) := by
  intro m
  induction m with
  | zero =>
    intro t i hk
    refine ⟨fun c h => ?_, fun h => by simp [btN] at h⟩
    simp [btN] at h
    subst h
    exact ⟨by simp, rfl, fun c' h => absurd h (Nat.not_lt_zero c')⟩
  | succ m ih =>
    intro t i hk
    -- what one person fails at
    have fail : ∀ s, s < P → (if bitB (W i) s && !bitB t s then (match btN W P m (seN t s) (i + 1) with | some c => some (s * P ^ m + c) | none => none) else none) = none → ∀ c, c < P ^ m → okF W (dgt P k (s * P ^ m + c)) (m + 1) t i = false := by
      intro s hs h c hc
      rw [okF_s hk hs hc]
      cases hb : (bitB (W i) s && !bitB t s) with
      | false => rfl
      | true =>
        rw [hb] at h
        simp only [if_true] at h
        cases hbt : btN W P m (seN t s) (i + 1) with
        | some c1 => rw [hbt] at h; simp at h
        | none => rw [Bool.true_and]; exact (ih (seN t s) (i + 1) (by omega)).2 hbt c hc
    have split : ∀ c, c < P ^ (m + 1) → 0 < P ^ m ∧ c = c / P ^ m * P ^ m + c % P ^ m ∧ c % P ^ m < P ^ m ∧ c / P ^ m < P := by
      intro c hc
      have hp : 0 < P ^ m := by
        by_cases e : P = 0
        · subst e; rw [Nat.zero_pow (by omega)] at hc; omega
        · exact Nat.pow_pos (by omega)
      refine ⟨hp, ?_, Nat.mod_lt _ hp, ?_⟩
      · rw [Nat.mul_comm]; exact (Nat.div_add_mod c (P ^ m)).symm
      · rw [Nat.pow_succ, Nat.mul_comm] at hc; exact Nat.div_lt_of_lt_mul (by rw [Nat.mul_comm]; exact hc)
    refine ⟨fun c h => ?_, fun h c hc => ?_⟩
    · obtain ⟨s, -, hs5, hf, hlow⟩ := fs_some 5 (by omega) h
      cases hb : (bitB (W i) s && !bitB t s) with
      | false => simp [hb] at hf
      | true =>
        simp only [hb, if_true] at hf
        cases hbt : btN W P m (seN t s) (i + 1) with
        | none => rw [hbt] at hf; simp at hf
        | some c1 =>
          rw [hbt] at hf
          simp at hf
          obtain ⟨h1, h2, h3⟩ := (ih (seN t s) (i + 1) (by omega)).1 c1 hbt
          have hsP : s < P := by
            by_cases e : s < P
            · exact e
            · rw [bitB_up (hW i) (by omega)] at hb; simp at hb
          subst hf
          refine ⟨?_, by rw [okF_s hk hsP h1, hb, h2]; rfl, fun c' hc' => ?_⟩
          · rw [Nat.pow_succ, Nat.mul_comm (P ^ m) P]
            have : s * P ^ m + P ^ m ≤ P * P ^ m := by rw [← Nat.succ_mul]; exact Nat.mul_le_mul_right _ hsP
            omega
          · have hc9 : c' < P ^ (m + 1) := by
              rw [Nat.pow_succ, Nat.mul_comm (P ^ m) P]
              have : s * P ^ m + P ^ m ≤ P * P ^ m := by rw [← Nat.succ_mul]; exact Nat.mul_le_mul_right _ hsP
              omega
            obtain ⟨q0, q1, q2, q3⟩ := split c' hc9
            rw [q1]
            by_cases e : c' / P ^ m = s
            · rw [e, okF_s hk hsP q2, hb, Bool.true_and]
              rw [e] at q1
              exact h3 _ (by omega)
            · have hlt : c' / P ^ m < s := by
                have h9 : c' / P ^ m < s + 1 := by
                  apply Nat.div_lt_of_lt_mul
                  rw [Nat.mul_comm, Nat.succ_mul]
                  omega
                omega
              exact fail _ q3 (hlow _ (by rw [Nat.sub_self]; exact Nat.zero_le _) hlt) _ q2
    · obtain ⟨q0, q1, q2, q3⟩ := split c hc
      rw [q1]
      exact fail _ q3 (fs_none 5 (by omega) h _ (by rw [Nat.sub_self]; exact Nat.zero_le _) (Nat.lt_of_lt_of_le q3 hP)) _ q2
/-! alive lives by their order -/
def lfI (a i : Nat) : Nat := if bitB a 0 && decide (plN a 0 = i) then 0 else if bitB a 1 && decide (plN a 1 = i) then 1 else if bitB a 2 && decide (plN a 2 = i) then 2 else if bitB a 3 && decide (plN a 3 = i) then 3 else 4
theorem lfI_pl : ∀ a, a < 32 → ∀ l, l < 5 → bitB a l = true → lfI a (plN a l) = l := by decide +kernel
theorem plN_s (a l : Nat) : plN a (l + 1) = plN a l + if bitB a l = true then 1 else 0 := by
  show plN a l + a / 2 ^ l % 2 = _
  unfold bitB
  by_cases h : a / 2 ^ l % 2 = 1
  · rw [decide_eq_true h, if_pos rfl, h]
  · rw [decide_eq_false h, if_neg (by decide)]
    omega
theorem plN_mono {a l : Nat} : ∀ m, plN a l ≤ plN a (l + m) := by
  intro m
  induction m with
  | zero => exact Nat.le_refl _
  | succ m ih => show _ ≤ plN a (l + m) + _; omega
theorem plN_lt {a l : Nat} (hl : l < 5) (h : bitB a l = true) : plN a l < plN a 5 := by
  have h1 := plN_s a l
  rw [if_pos h] at h1
  have h2 := plN_mono (a := a) (l := l + 1) (5 - (l + 1))
  rw [show l + 1 + (5 - (l + 1)) = 5 by omega] at h2
  omega
theorem ch_b {n : Nat} {p0 p1 : Nat} {p2 p3 p4 : Int32} {M : ab_M} {K : ab_Q} (hn : n ≤ 5) : EvD (n + 3) 30 [.ref p0, .ref p1, .int p2, .int p3, .int p4] M K = Ev (n + 2) 30 0 [some (.ref p0), some (.ref p1), some (.int p2), some (.int p3), some (.int p4), none, none] [] M K := by
  have hr : ab_rk 30 = 8 := by decide +kernel
  have hml : ab_ml 30 = 7 := by decide +kernel
  rw [EvD_body (by rw [hr]; omega) (by rw [hml]; rfl), hml]
  rfl
/-- what a choice leaves -/
def chQ (b : Bool) (M : ab_M) (a P k l : Nat) (o : Option Nat) : ab_Q := fun r M1 => Sh b M1 ∧ (∀ c, c ≠ 98 → mI M1 c = mI M c) ∧ (∀ l', l' < l → mI M1 98 l' = mI M 98 l') ∧ (o = none → r = some (.int 0)) ∧ ∀ c, o = some c → r = some (.int 1) ∧ ∀ l', l ≤ l' → l' < 5 → bitB a l' = true → mI M1 98 l' = nI (dgt P k c (plN a l'))
theorem C_choose {a P k : Nat} {b : Bool} {U : Nat → Nat} (hU : ∀ l, U l < 2 ^ P) (ha : a < 32) (hP : P ≤ 5) (hk : plN a 5 = k) : ∀ n l, l + n = 5 → ∀ t M, t < 32 → Sh b M → (∀ l, l < 5 → bitB a l = true → mI M 97 l = nI (U l)) → EvD (n + 3) 30 [.ref 97, .ref 98, .int (nI a), .int (nI t), .int (nI l)] M (chQ b M a P k l (btN (fun i => U (lfI a i)) P (k - plN a l) t (plN a l))) := by
  intro n
  induction n with
  | zero =>
    intro l hl t M ht hS hw
    have e : l = 5 := by omega
    subst e
    have z0 : (nI 5 < 0) = False := by decide
    have z1 : (0 ≤ nI 5) = True := by decide
    have z2 : (nI 5 < 5) = False := by decide
    rw [ch_b (n := 0) (by omega)]
    simp +decide only [e_30_0, e_30_2, e_30_5, e_30_7, e_30_8, e_30_11, e_30_12, ↓reduceIte, Int32.reduceAdd, Int32.reduceSub, an_0, an_1, an_2, an_3, an_4, an_5, tc_0, tc_1, tc_2, tc_3, tc_4, tc_5, tc_6, tc_7, tc_8, tc_9, tc_10, tc_11, tc_12, tc_13, tc_14, tc_15, tc_16, tc_17, tc_18, tc_19, tc_20, tc_21, tc_22, tc_23, tc_24, tc_25, tc_26, tc_27, tc_28, tc_29, tc_30, tc_31, tc_32, lcl_none, lcl_int, lcl_ref, lcl_null, lcl_long, okR_nil, okR_int, okR_ref, okR_null, okR_long, pushR_some, pushR_none, va_rf_some, va_rf_none, true_and, and_true, true_implies, false_implies, not_true_eq_false, not_false_eq_true, implies_true, bI_eq0, bI_eq1, bI_01, Classical.not_not, or_em, false_and, and_false, z0, z1, z2]
    rw [hk, Nat.sub_self]
    refine ⟨hS, fun _ _ => rfl, fun _ _ => rfl, fun h => by simp [btN] at h, fun c h => ⟨rfl, fun l' h1 h2 => by omega⟩⟩
  | succ n ih =>
    intro l hl t M ht hS hw
    have z0 : (nI l < 0) = False := eq_false (nI_pos (by omega))
    have z1 : (0 ≤ nI l) = True := eq_true (nI_pos' (by omega))
    have z2 : (nI l < 5) = True := by rw [show (5 : Int32) = nI 5 from rfl, nI_ltE (by omega) (by decide)]; exact eq_true (by omega)
    have hbl := hasB_b (x := a) (l := l) ha (by omega)
    have hps := plN_s a l
    rw [ch_b (n := n + 1) (by omega)]
    cases hba : bitB a l with
    | false =>
      rw [hba] at hbl
      rw [hba, if_neg (by decide), Nat.add_zero (plN a l)] at hps
      simp +decide only [e_30_0, e_30_2, e_30_5, e_30_7, e_30_8, e_30_11, e_30_12, e_30_13, e_30_14, e_30_16, e_30_19, e_30_22, e_30_23, e_30_24, e_30_25, e_30_26, e_30_28, e_30_29, e_30_30, ↓reduceIte, Int32.reduceAdd, Int32.reduceSub, an_0, an_1, an_2, an_3, an_4, an_5, tc_0, tc_1, tc_2, tc_3, tc_4, tc_5, tc_6, tc_7, tc_8, tc_9, tc_10, tc_11, tc_12, tc_13, tc_14, tc_15, tc_16, tc_17, tc_18, tc_19, tc_20, tc_21, tc_22, tc_23, tc_24, tc_25, tc_26, tc_27, tc_28, tc_29, tc_30, tc_31, tc_32, lcl_none, lcl_int, lcl_ref, lcl_null, lcl_long, okR_nil, okR_int, okR_ref, okR_null, okR_long, pushR_some, pushR_none, va_rf_some, va_rf_none, true_and, and_true, true_implies, false_implies, not_true_eq_false, not_false_eq_true, implies_true, bI_eq0, bI_eq1, bI_01, Classical.not_not, or_em, false_and, and_false, z0, z1, z2, c_isIn (d := n + 1 + 2) (by omega), hbl, nI_1]
      refine EvD_mono (ih (l + 1) (by omega) t M ht hS hw) ?_
      rw [hps]
      rintro r M1 ⟨h1, h2, h3, h4, h5⟩
      have hout : (btN (fun i => U (lfI a i)) P (k - plN a l) t (plN a l) = none) ∨ ∃ c, btN (fun i => U (lfI a i)) P (k - plN a l) t (plN a l) = some c := by
        cases btN (fun i => U (lfI a i)) P (k - plN a l) t (plN a l) with
        | none => exact Or.inl rfl
        | some c => exact Or.inr ⟨c, rfl⟩
      have key : ∀ c, btN (fun i => U (lfI a i)) P (k - plN a l) t (plN a l) = some c → ∀ l', l ≤ l' → l' < 5 → bitB a l' = true → mI M1 98 l' = nI (dgt P k c (plN a l')) := by
        intro c hc l' g1 g2 g3
        have hne : l' ≠ l := fun e => by rw [e, hba] at g3; exact absurd g3 (by decide)
        exact (h5 c hc).2 l' (by omega) g2 g3
      rcases hout with ho | ⟨c, ho⟩
      · rw [h4 ho]
        simp +decide only [e_30_33, ↓reduceIte, Int32.reduceAdd, Int32.reduceSub, an_0, an_1, an_2, an_3, an_4, an_5, tc_0, tc_1, tc_2, tc_3, tc_4, tc_5, tc_6, tc_7, tc_8, tc_9, tc_10, tc_11, tc_12, tc_13, tc_14, tc_15, tc_16, tc_17, tc_18, tc_19, tc_20, tc_21, tc_22, tc_23, tc_24, tc_25, tc_26, tc_27, tc_28, tc_29, tc_30, tc_31, tc_32, lcl_none, lcl_int, lcl_ref, lcl_null, lcl_long, okR_nil, okR_int, okR_ref, okR_null, okR_long, pushR_some, pushR_none, va_rf_some, va_rf_none, true_and, and_true, true_implies, false_implies, not_true_eq_false, not_false_eq_true, implies_true, bI_eq0, bI_eq1, bI_01, Classical.not_not, or_em, false_and, and_false]
        exact ⟨h1, h2, fun l' hl' => h3 l' (by omega), fun _ => rfl, fun c hc => by rw [ho] at hc; exact absurd hc (by simp)⟩
      · rw [(h5 c ho).1]
        simp +decide only [e_30_33, ↓reduceIte, Int32.reduceAdd, Int32.reduceSub, an_0, an_1, an_2, an_3, an_4, an_5, tc_0, tc_1, tc_2, tc_3, tc_4, tc_5, tc_6, tc_7, tc_8, tc_9, tc_10, tc_11, tc_12, tc_13, tc_14, tc_15, tc_16, tc_17, tc_18, tc_19, tc_20, tc_21, tc_22, tc_23, tc_24, tc_25, tc_26, tc_27, tc_28, tc_29, tc_30, tc_31, tc_32, lcl_none, lcl_int, lcl_ref, lcl_null, lcl_long, okR_nil, okR_int, okR_ref, okR_null, okR_long, pushR_some, pushR_none, va_rf_some, va_rf_none, true_and, and_true, true_implies, false_implies, not_true_eq_false, not_false_eq_true, implies_true, bI_eq0, bI_eq1, bI_01, Classical.not_not, or_em, false_and, and_false]
        exact ⟨h1, h2, fun l' hl' => h3 l' (by omega), fun hc => by rw [ho] at hc; exact absurd hc (by simp), fun c hc => ⟨rfl, key c hc⟩⟩
    | true =>
      rw [hba] at hbl
      rw [hba, if_pos rfl] at hps
      have hlt := plN_lt (a := a) (show l < 5 by omega) hba
      obtain ⟨m, hm⟩ : ∃ m, k - plN a l = m + 1 := ⟨k - plN a l - 1, by omega⟩
      have hm2 : k - plN a (l + 1) = m := by omega
      have hWl : (fun i => U (lfI a i)) (plN a l) = U l := by show U (lfI a (plN a l)) = U l; rw [lfI_pl a ha l (by omega) hba]
      have hU32 : U l < 32 := Nat.lt_of_lt_of_le (hU l) (pow_L hP)
      have hwl := hw l (by omega) hba
      have hcl : (nI l).toNatClampNeg = l := nI_clamp (by omega)
      have hin : inX (nI l) 5 = True := eq_true (inX_nI (by decide) (by omega))
      have hfr := ot_nI (U l) hU32 t ht
      have hf32 : U l &&& (31 - t) < 32 := Nat.lt_of_le_of_lt Nat.and_le_left hU32
      rw [hm]
      generalize hF : (fun s => if bitB ((fun i => U (lfI a i)) (plN a l)) s && !bitB t s then (match btN (fun i => U (lfI a i)) P m (seN t s) (plN a l + 1) with | some c => some (s * P ^ m + c) | none => none) else none) = F
      have hFs : ∀ s, F s = if bitB (U l) s && !bitB t s then (match btN (fun i => U (lfI a i)) P m (seN t s) (plN a l + 1) with | some c => some (s * P ^ m + c) | none => none) else none := fun s => by rw [← hF, hWl]
      have hbt : btN (fun i => U (lfI a i)) P (m + 1) t (plN a l) = fsS F 5 := by rw [← hF]; rfl
      rw [hbt]
      simp +decide only [e_30_0, e_30_2, e_30_5, e_30_7, e_30_8, e_30_11, e_30_12, e_30_13, e_30_14, e_30_16, e_30_19, e_30_22, e_30_23, e_30_24, e_30_25, e_30_26, e_30_28, e_30_29, e_30_30, e_30_33, e_30_34, e_30_35, e_30_37, e_30_38, e_30_39, e_30_40, e_30_41, e_30_42, e_30_44, e_30_45, ↓reduceIte, Int32.reduceAdd, Int32.reduceSub, an_0, an_1, an_2, an_3, an_4, an_5, tc_0, tc_1, tc_2, tc_3, tc_4, tc_5, tc_6, tc_7, tc_8, tc_9, tc_10, tc_11, tc_12, tc_13, tc_14, tc_15, tc_16, tc_17, tc_18, tc_19, tc_20, tc_21, tc_22, tc_23, tc_24, tc_25, tc_26, tc_27, tc_28, tc_29, tc_30, tc_31, tc_32, lcl_none, lcl_int, lcl_ref, lcl_null, lcl_long, okR_nil, okR_int, okR_ref, okR_null, okR_long, pushR_some, pushR_none, va_rf_some, va_rf_none, true_and, and_true, true_implies, false_implies, not_true_eq_false, not_false_eq_true, implies_true, bI_eq0, bI_eq1, bI_01, Classical.not_not, or_em, false_and, and_false, hS.1, hS.2.1, hS.2.2.1, hS.2.2.2.1, kT_0, kT_1, kT_2, kT_15, kT_16, kT_17, kT_18, kT_19, kT_80, kT_81, kT_82, kT_89, kT_90, kT_91, kT_92, kT_93, kT_94, kT_95, kT_96, kT_97, kT_98, kT_99, kT_100, kT_101, nT_2, nT_16, nT_17, nT_19, nT_81, nT_82, nT_90, nT_91, nT_94, nT_95, nT_97, nT_98, nT_100, nT_101, rT_0_0, rT_0_3, rT_0_4, rT_0_5, rT_0_6, rT_0_7, rT_0_8, rT_0_9, rT_0_10, rT_1_0, rT_15_0, rT_15_1, rT_18_0, rT_80_0, rT_80_1, rT_89_0, rT_89_1, rT_93_6, rT_93_7, rT_96_0, rT_96_1, rT_99_0, rT_99_1, z0, z1, z2, c_isIn (d := n + 1 + 2) (by omega), hbl, hcl, hin, hwl, hfr]
      have loop : ∀ q s M', s + q = 5 → Sh b M' → (∀ c, c ≠ 98 → mI M' c = mI M c) → (∀ l', l' < l → mI M' 98 l' = mI M 98 l') → Ev (n + 1 + 2) 30 47 [some (.ref 97), some (.ref 98), some (.int (nI a)), some (.int (nI t)), some (.int (nI l)), some (.int (nI (U l &&& (31 - t)))), some (.int (nI s))] [] M' (chQ b M a P k l (fsS F q)) := by
        intro q
        induction q with
        | zero =>
          intro s M' hs hS' hf' hl'
          have h1 : (5 ≤ nI s) = True := by rw [show s = 5 by omega]; exact eq_true (by decide)
          rw [e_30_47]
          simp +decide only [e_30_49, e_30_50, e_30_96, e_30_97, ↓reduceIte, Int32.reduceAdd, Int32.reduceSub, an_0, an_1, an_2, an_3, an_4, an_5, tc_0, tc_1, tc_2, tc_3, tc_4, tc_5, tc_6, tc_7, tc_8, tc_9, tc_10, tc_11, tc_12, tc_13, tc_14, tc_15, tc_16, tc_17, tc_18, tc_19, tc_20, tc_21, tc_22, tc_23, tc_24, tc_25, tc_26, tc_27, tc_28, tc_29, tc_30, tc_31, tc_32, lcl_none, lcl_int, lcl_ref, lcl_null, lcl_long, okR_nil, okR_int, okR_ref, okR_null, okR_long, pushR_some, pushR_none, va_rf_some, va_rf_none, true_and, and_true, true_implies, false_implies, not_true_eq_false, not_false_eq_true, implies_true, bI_eq0, bI_eq1, bI_01, Classical.not_not, or_em, false_and, and_false, h1]
          exact ⟨hS', hf', hl', fun _ => rfl, fun c hc => by simp [fsS] at hc⟩
        | succ q ihq =>
          intro s M' hs hS' hf' hl'
          have h1 : (5 ≤ nI s) = False := by rw [show (5 : Int32) = nI 5 from rfl, nI_leE (by decide) (by omega)]; exact eq_false (by omega)
          have hob := ot_bit (U l) hU32 t ht s (by omega)
          have hbs := hasB_b (x := U l &&& (31 - t)) (l := s) hf32 (by omega)
          rw [hob] at hbs
          have hfq : fsS F (q + 1) = match F s with | some c => some c | none => fsS F q := by
            show (match F (4 - q) with | some c => some c | none => fsS F q) = _
            rw [show 4 - q = s by omega]
          rw [e_30_47]
          cases hbb : (bitB (U l) s && !bitB t s) with
          | false =>
            have hFn : F s = none := by rw [hFs s, hbb]; rfl
            rw [hFn] at hfq
            rw [hbb] at hbs
            simp +decide only [e_30_49, e_30_50, e_30_53, e_30_55, e_30_57, e_30_60, e_30_90, e_30_93, ↓reduceIte, Int32.reduceAdd, Int32.reduceSub, an_0, an_1, an_2, an_3, an_4, an_5, tc_0, tc_1, tc_2, tc_3, tc_4, tc_5, tc_6, tc_7, tc_8, tc_9, tc_10, tc_11, tc_12, tc_13, tc_14, tc_15, tc_16, tc_17, tc_18, tc_19, tc_20, tc_21, tc_22, tc_23, tc_24, tc_25, tc_26, tc_27, tc_28, tc_29, tc_30, tc_31, tc_32, lcl_none, lcl_int, lcl_ref, lcl_null, lcl_long, okR_nil, okR_int, okR_ref, okR_null, okR_long, pushR_some, pushR_none, va_rf_some, va_rf_none, true_and, and_true, true_implies, false_implies, not_true_eq_false, not_false_eq_true, implies_true, bI_eq0, bI_eq1, bI_01, Classical.not_not, or_em, false_and, and_false, h1, c_isIn (d := n + 1 + 2) (by omega), hbs, nI_1]
            rw [hfq]
            exact ihq (s + 1) M' (by omega) hS' hf' hl'
          | true =>
            rw [hbb] at hbs
            have hsP : s < P := by
              by_cases e : s < P
              · exact e
              · rw [bitB_up (hU l) (by omega)] at hbb; simp at hbb
            have hor := se_nI t ht s (by omega)
            simp +decide only [e_30_49, e_30_50, e_30_53, e_30_55, e_30_57, e_30_60, e_30_63, e_30_64, e_30_66, e_30_68, e_30_69, e_30_70, e_30_71, e_30_72, e_30_73, e_30_74, e_30_76, e_30_77, e_30_78, e_30_80, e_30_81, e_30_82, ↓reduceIte, Int32.reduceAdd, Int32.reduceSub, an_0, an_1, an_2, an_3, an_4, an_5, tc_0, tc_1, tc_2, tc_3, tc_4, tc_5, tc_6, tc_7, tc_8, tc_9, tc_10, tc_11, tc_12, tc_13, tc_14, tc_15, tc_16, tc_17, tc_18, tc_19, tc_20, tc_21, tc_22, tc_23, tc_24, tc_25, tc_26, tc_27, tc_28, tc_29, tc_30, tc_31, tc_32, lcl_none, lcl_int, lcl_ref, lcl_null, lcl_long, okR_nil, okR_int, okR_ref, okR_null, okR_long, pushR_some, pushR_none, va_rf_some, va_rf_none, true_and, and_true, true_implies, false_implies, not_true_eq_false, not_false_eq_true, implies_true, bI_eq0, bI_eq1, bI_01, Classical.not_not, or_em, false_and, and_false, hS'.1, hS'.2.1, hS'.2.2.1, kT_0, kT_1, kT_2, kT_15, kT_16, kT_17, kT_18, kT_19, kT_80, kT_81, kT_82, kT_89, kT_90, kT_91, kT_92, kT_93, kT_94, kT_95, kT_96, kT_97, kT_98, kT_99, kT_100, kT_101, nT_2, nT_16, nT_17, nT_19, nT_81, nT_82, nT_90, nT_91, nT_94, nT_95, nT_97, nT_98, nT_100, nT_101, rT_0_0, rT_0_3, rT_0_4, rT_0_5, rT_0_6, rT_0_7, rT_0_8, rT_0_9, rT_0_10, rT_1_0, rT_15_0, rT_15_1, rT_18_0, rT_80_0, rT_80_1, rT_89_0, rT_89_1, rT_93_6, rT_93_7, rT_96_0, rT_96_1, rT_99_0, rT_99_1, mK_wI, mN_wI, mR_wI, h1, c_isIn (d := n + 1 + 2) (by omega), hbs, hcl, hin, hor, nI_1]
            have hS2 : Sh b (wI M' 98 l (nI s)) := hS'
            refine EvD_mono (ih (l + 1) (by omega) (seN t s) (wI M' 98 l (nI s)) (seN_lt 5 (by decide) t ht s (by omega)) hS2 (fun l hl hb => by rw [mI_wI_ne (by decide), hf' 97 (by decide)]; exact hw l hl hb)) ?_
            rw [hm2, hps]
            rintro r M1 ⟨g1, g2, g3, g4, g5⟩
            have g2' : ∀ c, c ≠ 98 → mI M1 c = mI M c := fun c hc => by rw [g2 c hc, mI_wI_ne hc, hf' c hc]
            have g3' : ∀ l', l' < l → mI M1 98 l' = mI M 98 l' := fun l' h => by rw [g3 l' (by omega), mI_wI, if_neg (fun z => by omega), hl' l' h]
            cases hb2 : btN (fun i => U (lfI a i)) P m (seN t s) (plN a l + 1) with
            | none =>
              have hFn : F s = none := by rw [hFs s, hbb, hb2]; rfl
              rw [hFn] at hfq
              rw [g4 hb2]
              simp +decide only [e_30_85, e_30_88, e_30_89, e_30_90, e_30_93, ↓reduceIte, Int32.reduceAdd, Int32.reduceSub, an_0, an_1, an_2, an_3, an_4, an_5, tc_0, tc_1, tc_2, tc_3, tc_4, tc_5, tc_6, tc_7, tc_8, tc_9, tc_10, tc_11, tc_12, tc_13, tc_14, tc_15, tc_16, tc_17, tc_18, tc_19, tc_20, tc_21, tc_22, tc_23, tc_24, tc_25, tc_26, tc_27, tc_28, tc_29, tc_30, tc_31, tc_32, lcl_none, lcl_int, lcl_ref, lcl_null, lcl_long, okR_nil, okR_int, okR_ref, okR_null, okR_long, pushR_some, pushR_none, va_rf_some, va_rf_none, true_and, and_true, true_implies, false_implies, not_true_eq_false, not_false_eq_true, implies_true, bI_eq0, bI_eq1, bI_01, Classical.not_not, or_em, false_and, and_false, nI_1]
              rw [hfq]
              exact ihq (s + 1) M1 (by omega) g1 g2' g3'
            | some c1 =>
              have hFn : F s = some (s * P ^ m + c1) := by rw [hFs s, hbb, hb2]; rfl
              rw [hFn] at hfq
              have hc1 := ((bt_main (W := fun i => U (lfI a i)) (k := k) hP (fun i => hU _) m (seN t s) (plN a l + 1) (by omega)).1 c1 hb2).1
              rw [(g5 c1 hb2).1]
              simp +decide only [e_30_85, e_30_88, e_30_89, ↓reduceIte, Int32.reduceAdd, Int32.reduceSub, an_0, an_1, an_2, an_3, an_4, an_5, tc_0, tc_1, tc_2, tc_3, tc_4, tc_5, tc_6, tc_7, tc_8, tc_9, tc_10, tc_11, tc_12, tc_13, tc_14, tc_15, tc_16, tc_17, tc_18, tc_19, tc_20, tc_21, tc_22, tc_23, tc_24, tc_25, tc_26, tc_27, tc_28, tc_29, tc_30, tc_31, tc_32, lcl_none, lcl_int, lcl_ref, lcl_null, lcl_long, okR_nil, okR_int, okR_ref, okR_null, okR_long, pushR_some, pushR_none, va_rf_some, va_rf_none, true_and, and_true, true_implies, false_implies, not_true_eq_false, not_false_eq_true, implies_true, bI_eq0, bI_eq1, bI_01, Classical.not_not, or_em, false_and, and_false]
              refine ⟨g1, g2', g3', fun h => by rw [hfq] at h; exact absurd h (by simp), fun c hc => ⟨rfl, fun l' q1 q2 q3 => ?_⟩⟩
              rw [hfq] at hc
              have hc : s * P ^ m + c1 = c := by simpa using hc
              rw [← hc]
              by_cases e : l' = l
              · rw [e, g3 l (by omega), mI_wI, if_pos ⟨rfl, rfl⟩, dgt_hi (by omega) hsP hc1]
              · have h9 := plN_mono (a := a) (l := l + 1) (l' - (l + 1))
                rw [show l + 1 + (l' - (l + 1)) = l' by omega, hps] at h9
                have h8 := plN_lt (a := a) q2 q3
                rw [dgt_lo (by omega)]
                exact (g5 c1 hb2).2 l' (by omega) q2 q3
      exact loop 5 0 M (by omega) hS (fun _ _ => rfl) (fun _ _ => rfl)
