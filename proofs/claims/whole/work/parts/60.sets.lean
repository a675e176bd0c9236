/-! sets by a rule -/
def setN (p : Nat → Bool) : Nat → Nat
  | 0 => 0
  | l + 1 => setN p l + if p l = true then 2 ^ l else 0
theorem setN_lt (p : Nat → Bool) : ∀ l, setN p l < 2 ^ l := by
  intro l
  induction l with
  | zero => exact Nat.one_pos
  | succ l ih =>
    unfold setN
    rw [Nat.pow_succ]
    split <;> omega
theorem setN_c {p p1 : Nat → Bool} : ∀ l, (∀ j, j < l → p j = p1 j) → setN p l = setN p1 l := by
  intro l
  induction l with
  | zero => intro _; rfl
  | succ l ih => intro h; unfold setN; rw [ih (fun j hj => h j (by omega)), h l (by omega)]
def bitB (x l : Nat) : Bool := decide (x / 2 ^ l % 2 = 1)
theorem bitB_up {x L l : Nat} (h : x < 2 ^ L) (hl : L ≤ l) : bitB x l = false := by
  unfold bitB
  rw [bit_z (Nat.lt_of_lt_of_le h (Nat.pow_le_pow_right (by decide) hl))]
  rfl
theorem setN_up {p : Nat → Bool} {L : Nat} (h : ∀ l, L ≤ l → p l = false) : ∀ m, setN p (L + m) = setN p L := by
  intro m
  induction m with
  | zero => rfl
  | succ m ih => show setN p (L + m) + (if p (L + m) = true then 2 ^ (L + m) else 0) = _; rw [ih, h (L + m) (by omega)]; rfl
def anB (c : Nat → Bool) : Nat → Bool
  | 0 => false
  | l + 1 => anB c l || c l
def alB (c g : Nat → Bool) : Nat → Bool
  | 0 => true
  | l + 1 => if c l = true then alB c g l && g l else alB c g l
theorem anB_iff {x : Nat} : ∀ l, anB (bitB x) l = true ↔ x % 2 ^ l ≠ 0 := by
  intro l
  induction l with
  | zero => simp [anB, Nat.mod_one]
  | succ l ih =>
    have hm : x % 2 ^ (l + 1) = x % 2 ^ l + 2 ^ l * (x / 2 ^ l % 2) := Nat.mod_pow_succ
    have hp : 0 < 2 ^ l := Nat.pow_pos (by decide)
    unfold anB
    by_cases h : x / 2 ^ l % 2 = 1
    · rw [h] at hm
      simp only [bitB, h, decide_true, Bool.or_true, true_iff]
      omega
    · have h0 : x / 2 ^ l % 2 = 0 := by omega
      rw [h0, Nat.mul_zero] at hm
      simp only [bitB, h, decide_false, Bool.or_false]
      have hm : x % 2 ^ (l + 1) = x % 2 ^ l := hm
      rw [hm]
      exact ih
theorem alB_iff {x : Nat} {g : Nat → Bool} : ∀ l, setN (fun j => bitB x j && g j) l ≤ x % 2 ^ l ∧ (setN (fun j => bitB x j && g j) l = x % 2 ^ l ↔ alB (bitB x) g l = true) := by
  intro l
  induction l with
  | zero => simp [setN, alB, Nat.mod_one]
  | succ l ih =>
    have hm : x % 2 ^ (l + 1) = x % 2 ^ l + 2 ^ l * (x / 2 ^ l % 2) := Nat.mod_pow_succ
    have hp : 0 < 2 ^ l := Nat.pow_pos (by decide)
    unfold setN alB
    by_cases h : x / 2 ^ l % 2 = 1
    · rw [h, Nat.mul_one] at hm
      have hb : bitB x l = true := by simp [bitB, h]
      rw [hb]
      cases hg : g l with
      | true =>
        simp only [Bool.and_self, if_true, Bool.and_true]
        refine ⟨by omega, ?_⟩
        rw [← ih.2]
        omega
      | false =>
        simp only [Bool.and_false, if_true]
        refine ⟨by simp; omega, ?_⟩
        simp only [Bool.false_eq_true, if_false, iff_false]
        omega
    · have h0 : x / 2 ^ l % 2 = 0 := by omega
      rw [h0, Nat.mul_zero] at hm
      have hb : bitB x l = false := by simp [bitB, h]
      rw [hb]
      simp only [Bool.false_and, Bool.false_eq_true, if_false]
      have hm : x % 2 ^ (l + 1) = x % 2 ^ l := hm
      rw [hm]
      exact ih
theorem anB_x {x L : Nat} (h : x < 2 ^ L) : (x = 0) = ¬ anB (bitB x) L = true := by
  rw [anB_iff, Nat.mod_eq_of_lt h]
  simp
theorem alB_x {x L : Nat} {g : Nat → Bool} (hL : L ≤ 5) (h : x < 2 ^ L) : (setN (fun j => bitB x j && g j) 5 = x) = (alB (bitB x) g L = true) := by
  have e : setN (fun j => bitB x j && g j) 5 = setN (fun j => bitB x j && g j) L := by
    have := setN_up (p := fun j => bitB x j && g j) (L := L) (fun l hl => by rw [bitB_up h hl]; rfl) (5 - L)
    rw [show L + (5 - L) = 5 by omega] at this
    exact this
  rw [e, ← (alB_iff L).2, Nat.mod_eq_of_lt h]
theorem anB_c {c c1 : Nat → Bool} : ∀ l, (∀ j, j < l → c j = c1 j) → anB c l = anB c1 l := by
  intro l
  induction l with
  | zero => intro _; rfl
  | succ l ih => intro h; unfold anB; rw [ih (fun j hj => h j (by omega)), h l (by omega)]
theorem alB_c {c c1 g : Nat → Bool} : ∀ l, (∀ j, j < l → c j = c1 j) → alB c g l = alB c1 g l := by
  intro l
  induction l with
  | zero => intro _; rfl
  | succ l ih => intro h; unfold alB; rw [ih (fun j hj => h j (by omega)), h l (by omega)]
theorem setN_0 {p : Nat → Bool} : ∀ l, (setN p l = 0) ↔ anB p l = false := by
  intro l
  induction l with
  | zero => simp [setN, anB]
  | succ l ih =>
    unfold setN anB
    have hp : 0 < 2 ^ l := Nat.pow_pos (by decide)
    cases h : p l with
    | true => simp
    | false => simp; exact ih
/-! who gains by whose death, the class -/
theorem lg_gt {u v : Nat} (hu : u < 2 ^ 30) (hv : v < 2 ^ 30) : (lg_cmp (lN u - lN v) 0 ≤ 0) = (u ≤ v) := by
  have e1 : (lN u).toInt = u := lN_toInt (by omega)
  have e2 : (lN v).toInt = v := lN_toInt (by omega)
  rw [lg_cmp_le, Int64.le_iff_toInt_le, Int64.toInt_sub, e1, e2, Int.bmod_eq_of_le (by omega) (by omega), show (0 : Int64).toInt = 0 by decide]
  exact propext ⟨fun h => by omega, fun h => by omega⟩
theorem mg_gt {u v : Nat} (hu : u < 2 ^ 30) (hv : v < 2 ^ 30) : (nI u - nI v ≤ 0) = (u ≤ v) := by
  rw [Int32.le_iff_toInt_le, pk_sub_toInt hu hv, show (0 : Int32).toInt = 0 by decide]
  exact propext ⟨fun h => by omega, fun h => by omega⟩
theorem ot_nI : ∀ a, a < 32 → ∀ h, h < 32 → nI a &&& (nI h ^^^ (-1)) = nI (a &&& (31 - h)) := by decide +kernel
theorem ot_bit : ∀ a, a < 32 → ∀ h, h < 32 → ∀ l, l < 5 → bitB (a &&& (31 - h)) l = (bitB a l && !bitB h l) := by decide +kernel
theorem hsb_dec : ∀ a0 a1 a2 a3 a4 : Bool, bitB (cond a0 1 0 + cond a1 2 0 + cond a2 4 0 + cond a3 8 0 + cond a4 16 0) 0 = a0 ∧ bitB (cond a0 1 0 + cond a1 2 0 + cond a2 4 0 + cond a3 8 0 + cond a4 16 0) 1 = a1 ∧ bitB (cond a0 1 0 + cond a1 2 0 + cond a2 4 0 + cond a3 8 0 + cond a4 16 0) 2 = a2 ∧ bitB (cond a0 1 0 + cond a1 2 0 + cond a2 4 0 + cond a3 8 0 + cond a4 16 0) 3 = a3 ∧ bitB (cond a0 1 0 + cond a1 2 0 + cond a2 4 0 + cond a3 8 0 + cond a4 16 0) 4 = a4 := by decide +kernel
theorem hs_bit {S : Nat → Int32} {s : Int32} {l : Nat} (hl : l < 5) : bitB (hsN S s) l = decide (S (5 + l) = s) := by
  rw [hs_cond]
  obtain ⟨h0, h1, h2, h3, h4⟩ := hsb_dec (decide (S 5 = s)) (decide (S 6 = s)) (decide (S 7 = s)) (decide (S 8 = s)) (decide (S 9 = s))
  match l, hl with
  | 0, _ => exact h0
  | 1, _ => exact h1
  | 2, _ => exact h2
  | 3, _ => exact h3
  | 4, _ => exact h4
def gB (f : Nat → Nat) (a l : Nat) : Bool := decide (f a < f (clN a l))
def dgB (f : Nat → Nat) (a x l : Nat) : Bool := bitB x l && gB f a l
theorem hasB_b {x l : Nat} (hx : x < 32) (hl : l < 5) : hasB (nI x) (nI l) = bitB x l := hasB_nI x hx l hl
theorem L_dth {L a x : Nat} {b : Bool} {f : Nat → Nat} {M : ab_M} {K : ab_Q} (hW : TW b M L f) (hL : L ≤ 5) (ha : a < 2 ^ L) (hx : x < 32) (hf : ∀ A, A < 2 ^ L → f A < 2 ^ 30) : ∀ m l, l + m = 5 → Ev 2 71 5 [some (.ref 93), some (.int (nI x)), some (.int (nI a)), some (.int (nI (setN (dgB f a x) l))), some (.int (nI l))] [] M K = K (some (.int (nI (setN (dgB f a x) 5)))) M := by
  intro m
  induction m with
  | zero =>
    intro l hl
    have h1 : (5 ≤ nI l) = True := by rw [show l = 5 by omega]; exact eq_true (by decide)
    rw [e_71_5]
    simp +decide only [e_71_7, e_71_8, e_71_45, e_71_46, ↓reduceIte, Int32.reduceAdd, Int32.reduceSub, an_0, an_1, an_2, an_3, an_4, an_5, tc_0, tc_1, tc_2, tc_3, tc_4, tc_5, tc_6, tc_7, tc_8, tc_9, tc_10, tc_11, tc_12, tc_13, tc_14, tc_15, tc_16, tc_17, tc_18, tc_19, tc_20, tc_21, tc_22, tc_23, tc_24, tc_25, tc_26, tc_27, tc_28, tc_29, tc_30, tc_31, tc_32, lcl_none, lcl_int, lcl_ref, lcl_null, lcl_long, okR_nil, okR_int, okR_ref, okR_null, okR_long, pushR_some, pushR_none, va_rf_some, va_rf_none, true_and, and_true, true_implies, false_implies, not_true_eq_false, not_false_eq_true, implies_true, bI_eq0, bI_eq1, bI_01, Classical.not_not, or_em, false_and, and_false, h1]
    rw [show l = 5 by omega]
  | succ m ih =>
    intro l hl
    have h1 : (5 ≤ nI l) = False := by rw [show (5 : Int32) = nI 5 from rfl, nI_leE (by decide) (by omega)]; exact eq_false (by omega)
    have hb := hasB_b hx (show l < 5 by omega)
    have hk : mK M 93 = 9 := by rw [hW.1.1]; rfl
    have es : setN (dgB f a x) (l + 1) = setN (dgB f a x) l + if dgB f a x l = true then 2 ^ l else 0 := rfl
    have hih := ih (l + 1) (by omega)
    rw [e_71_5]
    cases hbx : bitB x l with
    | false =>
      rw [hbx] at hb
      have hd : dgB f a x l = false := by unfold dgB; rw [hbx]; rfl
      rw [es, hd] at hih
      simp +decide only [e_71_7, e_71_8, e_71_11, e_71_12, e_71_14, e_71_17, e_71_39, e_71_42, ↓reduceIte, Int32.reduceAdd, Int32.reduceSub, an_0, an_1, an_2, an_3, an_4, an_5, tc_0, tc_1, tc_2, tc_3, tc_4, tc_5, tc_6, tc_7, tc_8, tc_9, tc_10, tc_11, tc_12, tc_13, tc_14, tc_15, tc_16, tc_17, tc_18, tc_19, tc_20, tc_21, tc_22, tc_23, tc_24, tc_25, tc_26, tc_27, tc_28, tc_29, tc_30, tc_31, tc_32, lcl_none, lcl_int, lcl_ref, lcl_null, lcl_long, okR_nil, okR_int, okR_ref, okR_null, okR_long, pushR_some, pushR_none, va_rf_some, va_rf_none, true_and, and_true, true_implies, false_implies, not_true_eq_false, not_false_eq_true, implies_true, bI_eq0, bI_eq1, bI_01, Classical.not_not, or_em, false_and, and_false, h1, c_isIn (d := 2) (by decide), hb, nI_1]
      exact hih
    | true =>
      rw [hbx] at hb
      have hcl := Nat.lt_of_le_of_lt (clN_le a l) ha
      have hg := lg_gt (hf _ hcl) (hf _ ha)
      cases hgb : gB f a l with
      | false =>
        have hd : dgB f a x l = false := by unfold dgB; rw [hgb, Bool.and_false]
        rw [es, hd] at hih
        have hle : (lg_cmp (lN (f (clN a l)) - lN (f a)) 0 ≤ 0) = True := by rw [hg]; exact eq_true (Nat.not_lt.mp (of_decide_eq_false hgb))
        simp +decide only [e_71_7, e_71_8, e_71_11, e_71_12, e_71_14, e_71_17, e_71_20, e_71_21, e_71_23, e_71_24, e_71_27, e_71_28, e_71_29, e_71_39, e_71_42, ↓reduceIte, Int32.reduceAdd, Int32.reduceSub, an_0, an_1, an_2, an_3, an_4, an_5, tc_0, tc_1, tc_2, tc_3, tc_4, tc_5, tc_6, tc_7, tc_8, tc_9, tc_10, tc_11, tc_12, tc_13, tc_14, tc_15, tc_16, tc_17, tc_18, tc_19, tc_20, tc_21, tc_22, tc_23, tc_24, tc_25, tc_26, tc_27, tc_28, tc_29, tc_30, tc_31, tc_32, lcl_none, lcl_int, lcl_ref, lcl_null, lcl_long, okR_nil, okR_int, okR_ref, okR_null, okR_long, pushR_some, pushR_none, va_rf_some, va_rf_none, true_and, and_true, true_implies, false_implies, not_true_eq_false, not_false_eq_true, implies_true, bI_eq0, bI_eq1, bI_01, Classical.not_not, or_em, false_and, and_false, h1, hk, c_isIn (d := 2) (by decide), hb, c_gainByC (d := 2) (Nat.le_refl 2) hW hL ha (show l < 5 by omega), hle, nI_1]
        exact hih
      | true =>
        have hd : dgB f a x l = true := by unfold dgB; rw [hgb, hbx]; rfl
        rw [es, hd, if_pos rfl] at hih
        have hle : (lg_cmp (lN (f (clN a l)) - lN (f a)) 0 ≤ 0) = False := by rw [hg]; exact eq_false (Nat.not_le.mpr (of_decide_eq_true hgb))
        have hor := or_sh l (by omega) _ (setN_lt (dgB f a x) l)
        simp +decide only [e_71_7, e_71_8, e_71_11, e_71_12, e_71_14, e_71_17, e_71_20, e_71_21, e_71_23, e_71_24, e_71_27, e_71_28, e_71_29, e_71_32, e_71_33, e_71_34, e_71_36, e_71_37, e_71_38, e_71_39, e_71_42, ↓reduceIte, Int32.reduceAdd, Int32.reduceSub, an_0, an_1, an_2, an_3, an_4, an_5, tc_0, tc_1, tc_2, tc_3, tc_4, tc_5, tc_6, tc_7, tc_8, tc_9, tc_10, tc_11, tc_12, tc_13, tc_14, tc_15, tc_16, tc_17, tc_18, tc_19, tc_20, tc_21, tc_22, tc_23, tc_24, tc_25, tc_26, tc_27, tc_28, tc_29, tc_30, tc_31, tc_32, lcl_none, lcl_int, lcl_ref, lcl_null, lcl_long, okR_nil, okR_int, okR_ref, okR_null, okR_long, pushR_some, pushR_none, va_rf_some, va_rf_none, true_and, and_true, true_implies, false_implies, not_true_eq_false, not_false_eq_true, implies_true, bI_eq0, bI_eq1, bI_01, Classical.not_not, or_em, false_and, and_false, h1, hk, c_isIn (d := 2) (by decide), hb, c_gainByC (d := 2) (Nat.le_refl 2) hW hL ha (show l < 5 by omega), hle, hor, nI_1]
        exact hih
theorem c_deaths {d L a x : Nat} {b : Bool} {f : Nat → Nat} {M : ab_M} {K : ab_Q} (hd : 3 ≤ d) (hW : TW b M L f) (hL : L ≤ 5) (ha : a < 2 ^ L) (hx : x < 32) (hf : ∀ A, A < 2 ^ L → f A < 2 ^ 30) : EvD d 71 [.ref 93, .int (nI x), .int (nI a)] M K = K (some (.int (nI (setN (dgB f a x) 5)))) M := by
  rw [b_71 hd]
  have h := L_dth (K := K) hW hL ha hx hf 5 0 (by omega)
  simp +decide only [e_71_0, e_71_1, e_71_2, e_71_3, ↓reduceIte, Int32.reduceAdd, Int32.reduceSub, an_0, an_1, an_2, an_3, an_4, an_5, tc_0, tc_1, tc_2, tc_3, tc_4, tc_5, tc_6, tc_7, tc_8, tc_9, tc_10, tc_11, tc_12, tc_13, tc_14, tc_15, tc_16, tc_17, tc_18, tc_19, tc_20, tc_21, tc_22, tc_23, tc_24, tc_25, tc_26, tc_27, tc_28, tc_29, tc_30, tc_31, tc_32, lcl_none, lcl_int, lcl_ref, lcl_null, lcl_long, okR_nil, okR_int, okR_ref, okR_null, okR_long, pushR_some, pushR_none, va_rf_some, va_rf_none, true_and, and_true, true_implies, false_implies, not_true_eq_false, not_false_eq_true, implies_true, bI_eq0, bI_eq1, bI_01, Classical.not_not, or_em, false_and, and_false]
  exact h
