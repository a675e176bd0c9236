/-! worth, as numbers: the two ways to one sum -/
theorem bit_lo {l j B : Nat} (h : j < l) : (2 ^ l + B) / 2 ^ j % 2 = B / 2 ^ j % 2 := by
  obtain ⟨k, rfl⟩ : ∃ k, l = j + (k + 1) := ⟨l - j - 1, by omega⟩
  have e : 2 ^ (j + (k + 1)) = 2 ^ j * (2 * 2 ^ k) := by rw [Nat.pow_add, Nat.pow_succ, Nat.mul_comm (2 ^ k) 2]
  rw [e, Nat.mul_add_div (Nat.pow_pos (by decide))]
  omega
theorem bit_hi {l B : Nat} (h : B < 2 ^ l) : (2 ^ l + B) / 2 ^ l % 2 = 1 := by
  have e : (2 ^ l + B) / 2 ^ l = 1 := by
    rw [Nat.add_div_left _ (Nat.pow_pos (by decide)), Nat.div_eq_of_lt h]
  rw [e]
theorem bit_z {l B : Nat} (h : B < 2 ^ l) : B / 2 ^ l % 2 = 0 := by rw [Nat.div_eq_of_lt h]
theorem bit_ge {l A : Nat} (h : A / 2 ^ l % 2 = 1) : 2 ^ l ≤ A := by
  by_cases g : A < 2 ^ l
  · rw [bit_z g] at h
    omega
  · omega
/-! sums -/
def S0 (f : Nat → Nat) : Nat → Nat
  | 0 => 0
  | n + 1 => S0 f n + f n
theorem S0_c {f g : Nat → Nat} : ∀ n, (∀ i, i < n → f i = g i) → S0 f n = S0 g n := by
  intro n
  induction n with
  | zero => intro _; rfl
  | succ n ih => intro h; unfold S0; rw [ih (fun i hi => h i (by omega)), h n (by omega)]
theorem S0_a {f : Nat → Nat} {m : Nat} : ∀ n, S0 f (m + n) = S0 f m + S0 (fun i => f (m + i)) n := by
  intro n
  induction n with
  | zero => rfl
  | succ n ih => show S0 f (m + n) + f (m + n) = S0 f m + (S0 (fun i => f (m + i)) n + f (m + n)); rw [ih]; omega
theorem S0_m {f : Nat → Nat} {c : Nat} : ∀ n, c * S0 f n = S0 (fun i => c * f i) n := by
  intro n
  induction n with
  | zero => rfl
  | succ n ih => unfold S0; rw [Nat.mul_add, ih]
theorem S0_z {f : Nat → Nat} : ∀ n, (∀ i, i < n → f i = 0) → S0 f n = 0 := by
  intro n
  induction n with
  | zero => intro _; rfl
  | succ n ih => intro h; unfold S0; rw [ih (fun i hi => h i (by omega)), h n (by omega)]
/-! the class's way: one life after the other -/
def bfN (c g : Nat → Nat) : Nat → Nat → Nat
  | 0, A => g A
  | l + 1, A => if A / 2 ^ l % 2 = 1 then (100 - c l) * bfN c g l A + c l * bfN c g l (A - 2 ^ l) else bfN c g l A
/-! the model's way -/
def kcN (c : Nat → Nat) (A B : Nat) : Nat → Nat
  | 0 => 1
  | l + 1 => kcN c A B l * (if A / 2 ^ l % 2 = 1 then (if B / 2 ^ l % 2 = 1 then 100 - c l else c l) else (if B / 2 ^ l % 2 = 1 then 0 else 1))
theorem kcN_c {c : Nat → Nat} {A B A1 B1 : Nat} : ∀ l, (∀ j, j < l → A / 2 ^ j % 2 = A1 / 2 ^ j % 2 ∧ B / 2 ^ j % 2 = B1 / 2 ^ j % 2) → kcN c A B l = kcN c A1 B1 l := by
  intro l
  induction l with
  | zero => intro _; rfl
  | succ l ih => intro h; unfold kcN; rw [ih (fun j hj => h j (by omega)), (h l (by omega)).1, (h l (by omega)).2]
theorem bf_sum {c g : Nat → Nat} : ∀ l A, bfN c g l A = S0 (fun B => kcN c A B l * g (A - A % 2 ^ l + B)) (2 ^ l) := by
  intro l
  induction l with
  | zero =>
    intro A
    show g A = 0 + 1 * g (A - A % 1 + 0)
    rw [Nat.mod_one]
    simp
  | succ l ih =>
    intro A
    have hp : 2 ^ (l + 1) = 2 ^ l + 2 ^ l := by rw [Nat.pow_succ]; omega
    have hm : A % 2 ^ (l + 1) = A % 2 ^ l + 2 ^ l * (A / 2 ^ l % 2) := Nat.mod_pow_succ
    have hle : A % 2 ^ (l + 1) ≤ A := Nat.mod_le _ _
    rw [hp, S0_a]
    unfold bfN
    by_cases h : A / 2 ^ l % 2 = 1
    · rw [if_pos h, ih, ih, S0_m, S0_m, Nat.add_comm]
      have hge := bit_ge h
      rw [h, Nat.mul_one] at hm
      have hs : (A - 2 ^ l) % 2 ^ l = A % 2 ^ l := (Nat.mod_eq_sub_mod hge).symm
      congr 1
      · refine S0_c _ (fun B hB => ?_)
        show c l * (kcN c (A - 2 ^ l) B l * g (A - 2 ^ l - (A - 2 ^ l) % 2 ^ l + B)) = kcN c A B (l + 1) * g (A - A % (2 ^ l + 2 ^ l) + B)
        rw [← hp, hs, show A - 2 ^ l - A % 2 ^ l = A - A % 2 ^ (l + 1) by omega]
        rw [kcN_c (A1 := A) (B1 := B) l (fun j hj => ⟨by rw [← bit_lo (B := A - 2 ^ l) hj, show 2 ^ l + (A - 2 ^ l) = A by omega], rfl⟩)]
        show _ = kcN c A B l * _ * _
        rw [if_pos h, if_neg (by rw [bit_z hB]; decide), Nat.mul_comm (kcN c A B l) (c l), Nat.mul_assoc]
      · refine S0_c _ (fun B hB => ?_)
        show (100 - c l) * (kcN c A B l * g (A - A % 2 ^ l + B)) = kcN c A (2 ^ l + B) (l + 1) * g (A - A % (2 ^ l + 2 ^ l) + (2 ^ l + B))
        rw [← hp, show A - A % 2 ^ (l + 1) + (2 ^ l + B) = A - A % 2 ^ l + B by omega]
        show _ = kcN c A (2 ^ l + B) l * _ * _
        rw [if_pos h, if_pos (bit_hi hB), kcN_c (A1 := A) (B1 := B) l (fun j hj => ⟨rfl, bit_lo hj⟩), Nat.mul_comm (kcN c A B l) (100 - c l), Nat.mul_assoc]
    · rw [if_neg h, ih, S0_z (f := fun i => kcN c A (2 ^ l + i) (l + 1) * g (A - A % (2 ^ l + 2 ^ l) + (2 ^ l + i))), Nat.add_zero]
      · refine S0_c _ (fun B hB => ?_)
        have h0 : A / 2 ^ l % 2 = 0 := by omega
        have hm : A % 2 ^ (l + 1) = A % 2 ^ l := by rw [h0] at hm; omega
        show kcN c A B l * g (A - A % 2 ^ l + B) = kcN c A B l * _ * g (A - A % (2 ^ l + 2 ^ l) + B)
        rw [← hp, hm, if_neg h, if_neg (by rw [bit_z hB]; decide), Nat.mul_one]
      · intro B hB
        show kcN c A (2 ^ l + B) l * _ * _ = 0
        rw [if_neg h, if_pos (bit_hi hB), Nat.mul_zero, Nat.zero_mul]
def prN (c : Nat → Nat) (A B : Nat) : Nat → Nat
  | 0 => 1
  | l + 1 => prN c A B l * (if A / 2 ^ l % 2 = 1 then (if B / 2 ^ l % 2 = 1 then 100 - c l else c l) else 1)
theorem kc_pr {c : Nat → Nat} {A B : Nat} : ∀ l, (∀ j, j < l → B / 2 ^ j % 2 = 1 → A / 2 ^ j % 2 = 1) → kcN c A B l = prN c A B l := by
  intro l
  induction l with
  | zero => intro _; rfl
  | succ l ih =>
    intro h
    unfold kcN prN
    rw [ih (fun j hj => h j (by omega))]
    by_cases h1 : A / 2 ^ l % 2 = 1
    · rw [if_pos h1, if_pos h1]
    · rw [if_neg h1, if_neg h1, if_neg (fun z => h1 (h l (by omega) z))]
theorem kc_0 {c : Nat → Nat} {A B j : Nat} (h1 : B / 2 ^ j % 2 = 1) (h2 : A / 2 ^ j % 2 ≠ 1) : ∀ l, j < l → kcN c A B l = 0 := by
  intro l
  induction l with
  | zero => intro h; omega
  | succ l ih =>
    intro h
    unfold kcN
    by_cases e : j = l
    · rw [← e, if_neg h2, if_pos h1, Nat.mul_zero]
    · rw [ih (by omega), Nat.zero_mul]
theorem sub_iff : ∀ A, A < 32 → ∀ B, B < 32 → ((B &&& A = B) ↔ ∀ j, j < 5 → B / 2 ^ j % 2 = 1 → A / 2 ^ j % 2 = 1) := by decide +kernel
theorem sub_le : ∀ A, A < 32 → ∀ B, B < 32 → B &&& A = B → B ≤ A := by decide +kernel
/-- what the model sums up to B -/
def smT (L : Nat) (c g : Nat → Nat) (A B : Nat) : Nat := if B &&& A = B then prN c A B L * g B else 0
theorem sm_bf {L A : Nat} {c g : Nat → Nat} (hL : L ≤ 5) (hA : A < 2 ^ L) : S0 (smT L c g A) (A + 1) = bfN c g L A := by
  have h32 : 2 ^ L ≤ 32 := Nat.pow_le_pow_right (n := 2) (by decide) hL
  have key : ∀ B, B < 2 ^ L → smT L c g A B = kcN c A B L * g (A - A % 2 ^ L + B) := by
    intro B hB
    rw [Nat.mod_eq_of_lt hA, Nat.sub_self, Nat.zero_add]
    unfold smT
    by_cases h : B &&& A = B
    · rw [if_pos h, kc_pr L (fun j hj => (sub_iff A (by omega) B (by omega)).mp h j (by omega))]
    · rw [if_neg h]
      have h2 : ¬ ∀ j, j < 5 → B / 2 ^ j % 2 = 1 → A / 2 ^ j % 2 = 1 := fun z => h ((sub_iff A (by omega) B (by omega)).mpr z)
      have h3 : ∃ j, j < 5 ∧ B / 2 ^ j % 2 = 1 ∧ A / 2 ^ j % 2 ≠ 1 := by
        by_cases e : ∃ j, j < 5 ∧ B / 2 ^ j % 2 = 1 ∧ A / 2 ^ j % 2 ≠ 1
        · exact e
        · exact absurd (fun j hj hb => Classical.byContradiction (fun z => e ⟨j, hj, hb, z⟩)) h2
      obtain ⟨j, hj, hb, ha⟩ := h3
      have hjL : j < L := by
        by_cases g : j < L
        · exact g
        · have : B < 2 ^ j := Nat.lt_of_lt_of_le hB (Nat.pow_le_pow_right (by decide) (by omega))
          rw [bit_z this] at hb
          omega
      rw [kc_0 hb ha L hjL, Nat.zero_mul]
  have e1 : S0 (smT L c g A) (2 ^ L) = bfN c g L A := by
    rw [bf_sum]
    exact S0_c _ key
  obtain ⟨n, hn⟩ : ∃ n, 2 ^ L = (A + 1) + n := ⟨2 ^ L - (A + 1), by omega⟩
  rw [← e1, hn, S0_a (m := A + 1), S0_z (f := fun i => smT L c g A (A + 1 + i))]
  · rfl
  · intro i hi
    unfold smT
    rw [if_neg]
    intro z
    have := sub_le A (by omega) (A + 1 + i) (by omega) z
    omega
/-! bounds -/
def plN (A : Nat) : Nat → Nat
  | 0 => 0
  | l + 1 => plN A l + A / 2 ^ l % 2
theorem plN_c {A A1 : Nat} : ∀ l, (∀ j, j < l → A / 2 ^ j % 2 = A1 / 2 ^ j % 2) → plN A l = plN A1 l := by
  intro l
  induction l with
  | zero => intro _; rfl
  | succ l ih => intro h; unfold plN; rw [ih (fun j hj => h j (by omega)), h l (by omega)]
theorem bf_le {c g : Nat → Nat} {X N : Nat} (hg : ∀ B, B < N → g B ≤ X) : ∀ l A, (∀ j, j < l → c j ≤ 100) → A < N → bfN c g l A ≤ X * 100 ^ plN A l := by
  intro l
  induction l with
  | zero => intro A _ hA; simpa [bfN, plN] using hg A hA
  | succ l ih =>
    intro A hc hA
    unfold bfN plN
    by_cases h : A / 2 ^ l % 2 = 1
    · rw [if_pos h, h]
      have hge := bit_ge h
      have hpos : 0 < 2 ^ l := Nat.pow_pos (by decide)
      have h1 := ih A (fun j hj => hc j (by omega)) hA
      have h2 := ih (A - 2 ^ l) (fun j hj => hc j (by omega)) (by omega)
      rw [plN_c (A := A - 2 ^ l) (A1 := A) l (fun j hj => by rw [← bit_lo (B := A - 2 ^ l) hj, show 2 ^ l + (A - 2 ^ l) = A by omega])] at h2
      have h3 := Nat.mul_le_mul_left (100 - c l) h1
      have h4 := Nat.mul_le_mul_left (c l) h2
      have h5 : (100 - c l) * (X * 100 ^ plN A l) + c l * (X * 100 ^ plN A l) = X * 100 ^ (plN A l + 1) := by
        rw [← Nat.add_mul, show 100 - c l + c l = 100 by have := hc l (by omega); omega, Nat.pow_succ]
        rw [← Nat.mul_assoc X, Nat.mul_comm 100]
      omega
    · rw [if_neg h]
      have h0 : A / 2 ^ l % 2 = 0 := by omega
      rw [h0, Nat.add_zero]
      exact ih A (fun j hj => hc j (by omega)) hA
theorem plN_pop {L A : Nat} (hL : L ≤ 5) (hA : A < 2 ^ L) : plN A L = pop5 A := by
  have key : ∀ m, L + m = 5 → plN A 5 = plN A L := by
    intro m hm
    have h : ∀ k, L + k ≤ 5 → plN A (L + k) = plN A L := by
      intro k
      induction k with
      | zero => intro _; rfl
      | succ k ih =>
        intro hk
        show plN A (L + k) + A / 2 ^ (L + k) % 2 = plN A L
        rw [ih (by omega), bit_z (Nat.lt_of_lt_of_le hA (Nat.pow_le_pow_right (by decide) (by omega)))]
        rfl
    rw [← hm]
    exact h m (by omega)
  rw [← key (5 - L) (by omega)]
  simp [plN, pop5]
def wyN (L : Nat) (c p w : Nat → Nat) (A : Nat) : Nat := bfN c (fun B => 1000 * p B + w B) L A / 100 ^ pop5 A
theorem wy_le {L A X : Nat} {c p w : Nat → Nat} (hL : L ≤ 5) (hA : A < 2 ^ L) (hc : ∀ j, j < L → c j ≤ 100) (hp : ∀ B, B < 2 ^ L → p B ≤ 999) (hw : ∀ B, B < 2 ^ L → w B ≤ X) : bfN c (fun B => 1000 * p B + w B) L A ≤ (999000 + X) * 100 ^ pop5 A ∧ wyN L c p w A ≤ 999000 + X := by
  have h := bf_le (c := c) (g := fun B => 1000 * p B + w B) (X := 999000 + X) (N := 2 ^ L) (fun B hB => by have h1 := hp B hB; have h2 := hw B hB; show 1000 * p B + w B ≤ _; omega) L A hc hA
  rw [plN_pop hL hA] at h
  exact ⟨h, Nat.div_le_of_le_mul (by rw [Nat.mul_comm]; exact h)⟩
/-- the worth of plain years, and with the first year's chances -/
def w0N (L : Nat) (c p : Nat → Nat) : Nat → Nat → Nat
  | 0 => fun _ => 0
  | k + 1 => wyN L c p (w0N L c p k)
def wnN (L : Nat) (c cg p : Nat → Nat) : Nat → Nat → Nat
  | 0 => fun _ => 0
  | k + 1 => wyN L cg p (w0N L c p k)
theorem w0_le {L : Nat} {c p : Nat → Nat} (hL : L ≤ 5) (hc : ∀ j, j < L → c j ≤ 100) (hp : ∀ B, B < 2 ^ L → p B ≤ 999) : ∀ k B, B < 2 ^ L → w0N L c p k B ≤ 999000 * k := by
  intro k
  induction k with
  | zero => intro B _; exact Nat.le_refl _
  | succ k ih => intro B hB; have h := (wy_le hL hB hc hp ih).2; show wyN L c p (w0N L c p k) B ≤ _; omega
theorem wn_le {L : Nat} {c cg p : Nat → Nat} (hL : L ≤ 5) (hc : ∀ j, j < L → c j ≤ 100) (hcg : ∀ j, j < L → cg j ≤ 100) (hp : ∀ B, B < 2 ^ L → p B ≤ 999) : ∀ k B, B < 2 ^ L → wnN L c cg p k B ≤ 999000 * k := by
  intro k B hB
  match k with
  | 0 => exact Nat.le_refl _
  | k + 1 => have h := (wy_le hL hB hcg hp (w0_le hL hc hp k)).2; show wyN L cg p (w0N L c p k) B ≤ _; omega
