/-! THE RELATION: what a state of both sides is, in words of one virtual memory. 0: lives, people, isPot, fault, seed, letters, backs, entries; 1: terms; 2: odds; 3: life at; 4: one at; 5: now (purses 0..4, holders 5..9, alive, guarded, harmed, years); 6: text; 7, 8: book; 9: image seeds; 10, 11: images; 12: kept; 20 + i: what can be undone -/
abbrev Sg : Type := Nat → Nat → Int32
def chL (b : Bool) : Nat := cond b 9 3
def SN (M : ab_M) (s : Nat) (S : Nat → Int32) : Prop := (∀ k, k < 5 → mI M (s + 1) k = S k) ∧ (∀ k, k < 5 → mI M (s + 2) k = S (5 + k)) ∧ mI M s 2 = S 10 ∧ mI M s 3 = S 11 ∧ mI M s 4 = S 12 ∧ mI M s 5 = S 13
def RC0 (b : Bool) (M : ab_M) (σ : Sg) : Prop := (mI M (chL b) 5 = σ 0 0 ∧ mI M (chL b) 6 = σ 0 1 ∧ mI M (chL b) 0 = σ 0 2) ∧ (mI M 0 11 = σ 0 3 ∧ mI M 92 0 = σ 0 4 ∧ mI M 1 1 = σ 0 5 ∧ mI M 18 2 = σ 0 6 ∧ mI M 89 2 = σ 0 7) ∧ mI M (chL b) 1 = σ 1 0 ∧ mI M (chL b) 2 = σ 1 1 ∧ mI M (chL b) 3 = σ 1 2 ∧ mI M (chL b) 4 = σ 1 3
def RC2 (b : Bool) (M : ab_M) (σ : Sg) : Prop := (∀ k, k < 5 → nI k < σ 0 0 → mI M (chL b + 1) k = σ 2 k ∧ mI M (chL b + 2) k = σ 3 k) ∧ ∀ k, k < 5 → nI k < σ 0 1 → mI M (chL b + 5) k = σ 4 k
/-- a letter as it is kept: never below 0 -/
def nnI (x : Int32) : Int32 := if 0 ≤ x then x else 0
theorem nnI_of {x : Int32} (h : 0 ≤ x) : nnI x = x := if_pos h
theorem nnI_nn (x : Int32) : 0 ≤ nnI x := by
  unfold nnI
  split
  · assumption
  · decide
def RCt (M : ab_M) (σ : Sg) : Prop := ∀ k, k < 220 → mI M 2 k = nnI (σ 6 k)
def RCb (M : ab_M) (σ : Sg) : Prop := ∀ k, k < 15 → mI M 90 k = σ 7 k ∧ mI M 91 k = σ 8 k
def RCi (M : ab_M) (σ : Sg) : Prop := ∀ i, i < 2 → mI M 82 i = σ 9 i ∧ SN M (83 + 3 * i) (σ (10 + i)) ∧ hasB (mI M 80 2) (nI i) = (σ 12 i == 1)
def RCp (M : ab_M) (σ : Sg) : Prop := ∃ o, o < 20 ∧ mI M 18 1 = nI o ∧ ∀ i, i < 20 → nI i < σ 0 6 → SN M (20 + 3 * ((o + i) % 20)) (σ (20 + i))
def RM0 (M : ab_M) (σ : Sg) : Prop := (mI M 102 16 = σ 0 0 ∧ mI M 102 17 = σ 0 1 ∧ mI M 102 15 = σ 0 2) ∧ (mI M 102 7 = σ 0 3 ∧ mI M 102 28 = σ 0 4 ∧ mI M 102 0 = σ 0 5 ∧ mI M 102 24 = σ 0 6 ∧ mI M 102 29 = σ 0 7) ∧ mI M 107 0 = σ 1 0 ∧ mI M 107 1 = σ 1 1 ∧ mI M 107 2 = σ 1 2 ∧ mI M 107 3 = σ 1 3
def RM2 (M : ab_M) (σ : Sg) : Prop := (∀ k, k < 5 → nI k < σ 0 0 → mI M 108 k = σ 2 k ∧ mI M 109 k = σ 3 k) ∧ ∀ k, k < 5 → nI k < σ 0 1 → mI M 110 k = σ 4 k
def RMn (M : ab_M) (σ : Sg) : Prop := ∀ k, k < 14 → mI M 111 k = σ 5 k
def RMt (M : ab_M) (σ : Sg) : Prop := ∀ k, k < 220 → mI M 103 k = nnI (σ 6 k)
def RMb (M : ab_M) (σ : Sg) : Prop := ∀ k, k < 15 → mI M 116 (2 * k) = σ 7 k ∧ mI M 116 (2 * k + 1) = σ 8 k
def RMi (M : ab_M) (σ : Sg) : Prop := ∀ i, i < 2 → mI M 114 i = σ 9 i ∧ (∀ k, k < 14 → mI M 113 (14 * i + k) = σ (10 + i) k) ∧ mI M 115 i = σ 12 i
def RMp (M : ab_M) (σ : Sg) : Prop := ∀ i, i < 20 → nI i < σ 0 6 → ∀ k, k < 14 → mI M 112 (14 * i + k) = σ (20 + i) k
/-- a snapshot by which L lives, P people are told -/
def SI (L P : Nat) (S : Nat → Int32) : Prop := (∀ k, k < 5 → P ≤ k → S k = 0) ∧ (∀ k, k < 5 → L ≤ k → S (5 + k) = -1) ∧ (∀ k, k < 5 → S (5 + k) = -1 ∨ ∃ j, j < P ∧ S (5 + k) = nI j) ∧ ∃ a, a < 2 ^ L ∧ S 10 = nI a
def IV (L P : Nat) (σ : Sg) : Prop := (L ≤ 5 ∧ P ≤ 5 ∧ σ 0 0 = nI L ∧ σ 0 1 = nI P ∧ (σ 0 2 = 0 ∨ σ 0 2 = 1) ∧ 0 ≤ σ 0 4) ∧
  (∃ n, n ≤ 220 ∧ σ 0 5 = nI n) ∧ (∃ n, n ≤ 20 ∧ σ 0 6 = nI n) ∧ (∃ n, n ≤ 15 ∧ σ 0 7 = nI n ∧ ∀ i, i < n → ∃ j, j < P ∧ σ 7 i = nI j) ∧
  ((0 ≤ σ 1 0 ∧ σ 1 0 ≤ 999) ∧ (0 ≤ σ 1 1 ∧ σ 1 1 ≤ 10) ∧ (0 ≤ σ 1 2 ∧ σ 1 2 ≤ 99) ∧ (0 ≤ σ 1 3 ∧ σ 1 3 ≤ 99)) ∧
  (∀ k, k < L → (0 ≤ σ 2 k ∧ σ 2 k ≤ 100) ∧ (0 ≤ σ 3 k ∧ σ 3 k ≤ 50)) ∧ (∀ k, k < P → 0 ≤ σ 4 k ∧ σ 4 k ≤ 50) ∧
  SI L P (σ 5) ∧ (∀ i, i < 20 → nI i < σ 0 6 → SI L P (σ (20 + i))) ∧ ∀ i, i < 2 → (σ 12 i = 0 ∨ σ 12 i = 1) ∧ (σ 12 i = 1 → 0 ≤ σ 9 i ∧ SI L P (σ (10 + i)))
def RC (b : Bool) (M : ab_M) (σ : Sg) : Prop := RC0 b M σ ∧ RC2 b M σ ∧ SN M 15 (σ 5) ∧ RCt M σ ∧ RCb M σ ∧ RCi M σ ∧ RCp M σ
def RM (M : ab_M) (σ : Sg) : Prop := RM0 M σ ∧ RM2 M σ ∧ RMn M σ ∧ RMt M σ ∧ RMb M σ ∧ RMi M σ ∧ RMp M σ
def Rel (M : ab_M) : Prop := ∃ b σ L P, Sh b M ∧ RC b M σ ∧ RM M σ ∧ IV L P σ
theorem Rel_sh (M : ab_M) (h : Rel M) : ∃ b, Sh b M := by
  obtain ⟨b, σ, L, P, hS, -⟩ := h
  exact ⟨b, hS⟩
theorem chL_cases (b : Bool) : chL b = 3 ∨ chL b = 9 := by cases b <;> simp [chL]
theorem chL_lt (b : Bool) : 3 ≤ chL b ∧ chL b ≤ 9 := by cases b <;> simp [chL]
/-! each part looks at some labels alone -/
theorem SN.kp {M M1 : ab_M} {s : Nat} {S S1 : Nat → Int32} (h : SN M s S) (hm : ∀ a, s ≤ a → a ≤ s + 2 → mI M1 a = mI M a) (hs : ∀ k, k < 14 → S1 k = S k) : SN M1 s S1 := by
  obtain ⟨h1, h2, h3, h4, h5, h6⟩ := h
  refine ⟨fun k hk => ?_, fun k hk => ?_, ?_, ?_, ?_, ?_⟩
  · rw [hm _ (by omega) (by omega), hs k (by omega)]; exact h1 k hk
  · rw [hm _ (by omega) (by omega), hs _ (by omega)]; exact h2 k hk
  · rw [hm _ (by omega) (by omega), hs _ (by omega)]; exact h3
  · rw [hm _ (by omega) (by omega), hs _ (by omega)]; exact h4
  · rw [hm _ (by omega) (by omega), hs _ (by omega)]; exact h5
  · rw [hm _ (by omega) (by omega), hs _ (by omega)]; exact h6
theorem RC0.kp {b : Bool} {M M1 : ab_M} {σ σ1 : Sg} (h : RC0 b M σ) (hm : ∀ a, a = chL b ∨ a = 0 ∨ a = 1 ∨ a = 18 ∨ a = 89 ∨ a = 92 → mI M1 a = mI M a) (h0 : σ1 0 = σ 0) (h1 : σ1 1 = σ 1) : RC0 b M1 σ1 := by
  unfold RC0 at h ⊢
  rw [hm (chL b) (by simp), hm 0 (by simp), hm 1 (by simp), hm 18 (by simp), hm 89 (by simp), hm 92 (by simp), h0, h1]
  exact h
theorem RC2.kp {b : Bool} {M M1 : ab_M} {σ σ1 : Sg} (h : RC2 b M σ) (hm : ∀ a, chL b + 1 ≤ a → a ≤ chL b + 5 → mI M1 a = mI M a) (h0 : σ1 0 0 = σ 0 0) (h0' : σ1 0 1 = σ 0 1) (h2 : σ1 2 = σ 2) (h3 : σ1 3 = σ 3) (h4 : σ1 4 = σ 4) : RC2 b M1 σ1 := by
  unfold RC2 at h ⊢
  rw [hm (chL b + 1) (by omega) (by omega), hm (chL b + 2) (by omega) (by omega), hm (chL b + 5) (by omega) (by omega), h0, h0', h2, h3, h4]
  exact h
theorem RCt.kp {M M1 : ab_M} {σ σ1 : Sg} (h : RCt M σ) (hm : mI M1 2 = mI M 2) (h6 : σ1 6 = σ 6) : RCt M1 σ1 := by
  unfold RCt at h ⊢
  rw [hm, h6]
  exact h
theorem RCb.kp {M M1 : ab_M} {σ σ1 : Sg} (h : RCb M σ) (hm : mI M1 90 = mI M 90) (hm' : mI M1 91 = mI M 91) (h7 : σ1 7 = σ 7) (h8 : σ1 8 = σ 8) : RCb M1 σ1 := by
  unfold RCb at h ⊢
  rw [hm, hm', h7, h8]
  exact h
theorem RCi.kp {M M1 : ab_M} {σ σ1 : Sg} (h : RCi M σ) (hm : ∀ a, 80 ≤ a → a ≤ 88 → mI M1 a = mI M a) (h9 : σ1 9 = σ 9) (h10 : σ1 10 = σ 10) (h11 : σ1 11 = σ 11) (h12 : σ1 12 = σ 12) : RCi M1 σ1 := by
  intro i hi
  obtain ⟨g1, g2, g3⟩ := h i hi
  refine ⟨by rw [hm 82 (by omega) (by omega), h9]; exact g1, g2.kp (fun a h1 h2 => hm a (by omega) (by omega)) (fun k hk => ?_), by rw [hm 80 (by omega) (by omega), h12]; exact g3⟩
  match i, hi with
  | 0, _ => exact congrFun h10 k
  | 1, _ => exact congrFun h11 k
theorem RCp.kp {M M1 : ab_M} {σ σ1 : Sg} (h : RCp M σ) (h18 : mI M1 18 1 = mI M 18 1) (hm : ∀ a, 20 ≤ a → a ≤ 79 → mI M1 a = mI M a) (h0 : σ1 0 6 = σ 0 6) (hp : ∀ i, i < 20 → σ1 (20 + i) = σ (20 + i)) : RCp M1 σ1 := by
  obtain ⟨o, ho, h1, h2⟩ := h
  refine ⟨o, ho, by rw [h18]; exact h1, fun i hi hn => ?_⟩
  rw [h0] at hn
  exact (h2 i hi hn).kp (fun a g1 g2 => hm a (by omega) (by omega)) (fun k _ => by rw [hp i hi])
theorem RM0.kp {M M1 : ab_M} {σ σ1 : Sg} (h : RM0 M σ) (hm : mI M1 102 = mI M 102) (hm' : mI M1 107 = mI M 107) (h0 : σ1 0 = σ 0) (h1 : σ1 1 = σ 1) : RM0 M1 σ1 := by
  unfold RM0 at h ⊢
  rw [hm, hm', h0, h1]
  exact h
theorem RM2.kp {M M1 : ab_M} {σ σ1 : Sg} (h : RM2 M σ) (hm : ∀ a, 108 ≤ a → a ≤ 110 → mI M1 a = mI M a) (h0 : σ1 0 0 = σ 0 0) (h0' : σ1 0 1 = σ 0 1) (h2 : σ1 2 = σ 2) (h3 : σ1 3 = σ 3) (h4 : σ1 4 = σ 4) : RM2 M1 σ1 := by
  unfold RM2 at h ⊢
  rw [hm 108 (by omega) (by omega), hm 109 (by omega) (by omega), hm 110 (by omega) (by omega), h0, h0', h2, h3, h4]
  exact h
theorem RMn.kp {M M1 : ab_M} {σ σ1 : Sg} (h : RMn M σ) (hm : mI M1 111 = mI M 111) (h5 : σ1 5 = σ 5) : RMn M1 σ1 := by
  unfold RMn at h ⊢
  rw [hm, h5]
  exact h
theorem RMt.kp {M M1 : ab_M} {σ σ1 : Sg} (h : RMt M σ) (hm : mI M1 103 = mI M 103) (h6 : σ1 6 = σ 6) : RMt M1 σ1 := by
  unfold RMt at h ⊢
  rw [hm, h6]
  exact h
theorem RMb.kp {M M1 : ab_M} {σ σ1 : Sg} (h : RMb M σ) (hm : mI M1 116 = mI M 116) (h7 : σ1 7 = σ 7) (h8 : σ1 8 = σ 8) : RMb M1 σ1 := by
  unfold RMb at h ⊢
  rw [hm, h7, h8]
  exact h
theorem RMi.kp {M M1 : ab_M} {σ σ1 : Sg} (h : RMi M σ) (hm : ∀ a, 113 ≤ a → a ≤ 115 → mI M1 a = mI M a) (h9 : σ1 9 = σ 9) (h10 : σ1 10 = σ 10) (h11 : σ1 11 = σ 11) (h12 : σ1 12 = σ 12) : RMi M1 σ1 := by
  intro i hi
  obtain ⟨g1, g2, g3⟩ := h i hi
  refine ⟨by rw [hm 114 (by omega) (by omega), h9]; exact g1, fun k hk => ?_, by rw [hm 115 (by omega) (by omega), h12]; exact g3⟩
  rw [hm 113 (by omega) (by omega), g2 k hk]
  match i, hi with
  | 0, _ => exact (congrFun h10 k).symm
  | 1, _ => exact (congrFun h11 k).symm
theorem RMp.kp {M M1 : ab_M} {σ σ1 : Sg} (h : RMp M σ) (hm : mI M1 112 = mI M 112) (h0 : σ1 0 6 = σ 0 6) (hp : ∀ i, i < 20 → σ1 (20 + i) = σ (20 + i)) : RMp M1 σ1 := by
  intro i hi hn k hk
  rw [h0] at hn
  rw [hm, hp i hi]
  exact h i hi hn k hk
/-- the class's cells are as they were, and so the model's -/
def frC (M M1 : ab_M) : Prop := ∀ a, 102 ≤ a → mI M1 a = mI M a
def frM (M M1 : ab_M) : Prop := ∀ a, a < 102 → mI M1 a = mI M a
theorem RM.kp {M M1 : ab_M} {σ : Sg} (h : RM M σ) (hf : frC M M1) : RM M1 σ := by
  obtain ⟨h1, h2, h3, h4, h5, h6, h7⟩ := h
  exact ⟨h1.kp (hf _ (by omega)) (hf _ (by omega)) rfl rfl, h2.kp (fun a g1 g2 => hf a (by omega)) rfl rfl rfl rfl rfl, h3.kp (hf _ (by omega)) rfl, h4.kp (hf _ (by omega)) rfl, h5.kp (hf _ (by omega)) rfl rfl, h6.kp (fun a g1 g2 => hf a (by omega)) rfl rfl rfl rfl, h7.kp (hf _ (by omega)) rfl (fun _ _ => rfl)⟩
theorem RC.kp {b : Bool} {M M1 : ab_M} {σ : Sg} (h : RC b M σ) (hf : frM M M1) : RC b M1 σ := by
  obtain ⟨h1, h2, h3, h4, h5, h6, h7⟩ := h
  have hb := chL_lt b
  exact ⟨h1.kp (fun a ha => hf a (by omega)) rfl rfl, h2.kp (fun a g1 g2 => hf a (by omega)) rfl rfl rfl rfl rfl, h3.kp (fun a g1 g2 => hf a (by omega)) (fun _ _ => rfl), h4.kp (hf _ (by omega)) rfl, h5.kp (hf _ (by omega)) (hf _ (by omega)) rfl rfl, h6.kp (fun a g1 g2 => hf a (by omega)) rfl rfl rfl rfl, h7.kp (congrFun (hf _ (by omega)) 1) (fun a g1 g2 => hf a (by omega)) rfl (fun _ _ => rfl)⟩
/-- a call that leaves all as it is but for the class's own scratch cells -/
theorem frC_wI {M : ab_M} {a k : Nat} {v : Int32} (h : a < 102) : frC M (wI M a k v) := fun c hc => mI_wI_ne (by omega)
theorem frM_wI {M : ab_M} {a k : Nat} {v : Int32} (h : 102 ≤ a) : frM M (wI M a k v) := fun c hc => mI_wI_ne (by omega)
theorem frC.tr {M M1 M2 : ab_M} (h : frC M M1) (h2 : frC M1 M2) : frC M M2 := fun a ha => (h2 a ha).trans (h a ha)
theorem frM.tr {M M1 M2 : ab_M} (h : frM M M1) (h2 : frM M1 M2) : frM M M2 := fun a ha => (h2 a ha).trans (h a ha)
