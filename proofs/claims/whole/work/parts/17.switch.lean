/-! switches -/
theorem sw_76_0 : swT 1 183 0 13 #[71, 79, 87, 95, 103, 111, 119, 127, 135, 143, 151, 159, 167, 175] 0 = 72 := by decide +kernel
theorem sw_76_1 : swT 1 183 0 13 #[71, 79, 87, 95, 103, 111, 119, 127, 135, 143, 151, 159, 167, 175] 1 = 80 := by decide +kernel
theorem sw_76_2 : swT 1 183 0 13 #[71, 79, 87, 95, 103, 111, 119, 127, 135, 143, 151, 159, 167, 175] 2 = 88 := by decide +kernel
theorem sw_76_3 : swT 1 183 0 13 #[71, 79, 87, 95, 103, 111, 119, 127, 135, 143, 151, 159, 167, 175] 3 = 96 := by decide +kernel
theorem sw_76_4 : swT 1 183 0 13 #[71, 79, 87, 95, 103, 111, 119, 127, 135, 143, 151, 159, 167, 175] 4 = 104 := by decide +kernel
theorem sw_76_5 : swT 1 183 0 13 #[71, 79, 87, 95, 103, 111, 119, 127, 135, 143, 151, 159, 167, 175] 5 = 112 := by decide +kernel
theorem sw_76_6 : swT 1 183 0 13 #[71, 79, 87, 95, 103, 111, 119, 127, 135, 143, 151, 159, 167, 175] 6 = 120 := by decide +kernel
theorem sw_76_7 : swT 1 183 0 13 #[71, 79, 87, 95, 103, 111, 119, 127, 135, 143, 151, 159, 167, 175] 7 = 128 := by decide +kernel
theorem sw_76_8 : swT 1 183 0 13 #[71, 79, 87, 95, 103, 111, 119, 127, 135, 143, 151, 159, 167, 175] 8 = 136 := by decide +kernel
theorem sw_76_9 : swT 1 183 0 13 #[71, 79, 87, 95, 103, 111, 119, 127, 135, 143, 151, 159, 167, 175] 9 = 144 := by decide +kernel
theorem sw_76_10 : swT 1 183 0 13 #[71, 79, 87, 95, 103, 111, 119, 127, 135, 143, 151, 159, 167, 175] 10 = 152 := by decide +kernel
theorem sw_76_11 : swT 1 183 0 13 #[71, 79, 87, 95, 103, 111, 119, 127, 135, 143, 151, 159, 167, 175] 11 = 160 := by decide +kernel
theorem sw_76_12 : swT 1 183 0 13 #[71, 79, 87, 95, 103, 111, 119, 127, 135, 143, 151, 159, 167, 175] 12 = 168 := by decide +kernel
theorem sw_76_13 : swT 1 183 0 13 #[71, 79, 87, 95, 103, 111, 119, 127, 135, 143, 151, 159, 167, 175] 13 = 176 := by decide +kernel
theorem sw_76_d {x : Int32} (h : x.toInt < 0 ∨ 13 < x.toInt) : swT 1 183 0 13 #[71, 79, 87, 95, 103, 111, 119, 127, 135, 143, 151, 159, 167, 175] x = 184 := by
  unfold swT
  rw [if_pos h]
  rfl
theorem sw_137_0 : swT 1 140 0 13 #[71, 71, 71, 71, 78, 83, 88, 93, 101, 109, 117, 125, 130, 135] 0 = 72 := by decide +kernel
theorem sw_137_1 : swT 1 140 0 13 #[71, 71, 71, 71, 78, 83, 88, 93, 101, 109, 117, 125, 130, 135] 1 = 72 := by decide +kernel
theorem sw_137_2 : swT 1 140 0 13 #[71, 71, 71, 71, 78, 83, 88, 93, 101, 109, 117, 125, 130, 135] 2 = 72 := by decide +kernel
theorem sw_137_3 : swT 1 140 0 13 #[71, 71, 71, 71, 78, 83, 88, 93, 101, 109, 117, 125, 130, 135] 3 = 72 := by decide +kernel
theorem sw_137_4 : swT 1 140 0 13 #[71, 71, 71, 71, 78, 83, 88, 93, 101, 109, 117, 125, 130, 135] 4 = 79 := by decide +kernel
theorem sw_137_5 : swT 1 140 0 13 #[71, 71, 71, 71, 78, 83, 88, 93, 101, 109, 117, 125, 130, 135] 5 = 84 := by decide +kernel
theorem sw_137_6 : swT 1 140 0 13 #[71, 71, 71, 71, 78, 83, 88, 93, 101, 109, 117, 125, 130, 135] 6 = 89 := by decide +kernel
theorem sw_137_7 : swT 1 140 0 13 #[71, 71, 71, 71, 78, 83, 88, 93, 101, 109, 117, 125, 130, 135] 7 = 94 := by decide +kernel
theorem sw_137_8 : swT 1 140 0 13 #[71, 71, 71, 71, 78, 83, 88, 93, 101, 109, 117, 125, 130, 135] 8 = 102 := by decide +kernel
theorem sw_137_9 : swT 1 140 0 13 #[71, 71, 71, 71, 78, 83, 88, 93, 101, 109, 117, 125, 130, 135] 9 = 110 := by decide +kernel
theorem sw_137_10 : swT 1 140 0 13 #[71, 71, 71, 71, 78, 83, 88, 93, 101, 109, 117, 125, 130, 135] 10 = 118 := by decide +kernel
theorem sw_137_11 : swT 1 140 0 13 #[71, 71, 71, 71, 78, 83, 88, 93, 101, 109, 117, 125, 130, 135] 11 = 126 := by decide +kernel
theorem sw_137_12 : swT 1 140 0 13 #[71, 71, 71, 71, 78, 83, 88, 93, 101, 109, 117, 125, 130, 135] 12 = 131 := by decide +kernel
theorem sw_137_13 : swT 1 140 0 13 #[71, 71, 71, 71, 78, 83, 88, 93, 101, 109, 117, 125, 130, 135] 13 = 136 := by decide +kernel
theorem sw_137_d {x : Int32} (h : x.toInt < 0 ∨ 13 < x.toInt) : swT 1 140 0 13 #[71, 71, 71, 71, 78, 83, 88, 93, 101, 109, 117, 125, 130, 135] x = 141 := by
  unfold swT
  rw [if_pos h]
  rfl
theorem sw_77_0 : swT 15 101 0 4 #[33, 43, 53, 70, 80] 0 = 48 := by decide +kernel
theorem sw_77_1 : swT 15 101 0 4 #[33, 43, 53, 70, 80] 1 = 58 := by decide +kernel
theorem sw_77_2 : swT 15 101 0 4 #[33, 43, 53, 70, 80] 2 = 68 := by decide +kernel
theorem sw_77_3 : swT 15 101 0 4 #[33, 43, 53, 70, 80] 3 = 85 := by decide +kernel
theorem sw_77_4 : swT 15 101 0 4 #[33, 43, 53, 70, 80] 4 = 95 := by decide +kernel
theorem sw_77_d {x : Int32} (h : x.toInt < 0 ∨ 4 < x.toInt) : swT 15 101 0 4 #[33, 43, 53, 70, 80] x = 116 := by
  unfold swT
  rw [if_pos h]
  rfl
theorem sw_139_0 : swT 12 103 0 4 #[36, 43, 50, 62, 71] 0 = 48 := by decide +kernel
theorem sw_139_1 : swT 12 103 0 4 #[36, 43, 50, 62, 71] 1 = 55 := by decide +kernel
theorem sw_139_2 : swT 12 103 0 4 #[36, 43, 50, 62, 71] 2 = 62 := by decide +kernel
theorem sw_139_3 : swT 12 103 0 4 #[36, 43, 50, 62, 71] 3 = 74 := by decide +kernel
theorem sw_139_4 : swT 12 103 0 4 #[36, 43, 50, 62, 71] 4 = 83 := by decide +kernel
theorem sw_139_d {x : Int32} (h : x.toInt < 0 ∨ 4 < x.toInt) : swT 12 103 0 4 #[36, 43, 50, 62, 71] x = 115 := by
  unfold swT
  rw [if_pos h]
  rfl
theorem sw_78_0 : swT 15 64 0 3 #[29, 39, 49, 58] 0 = 44 := by decide +kernel
theorem sw_78_1 : swT 15 64 0 3 #[29, 39, 49, 58] 1 = 54 := by decide +kernel
theorem sw_78_2 : swT 15 64 0 3 #[29, 39, 49, 58] 2 = 64 := by decide +kernel
theorem sw_78_3 : swT 15 64 0 3 #[29, 39, 49, 58] 3 = 73 := by decide +kernel
theorem sw_78_d {x : Int32} (h : x.toInt < 0 ∨ 3 < x.toInt) : swT 15 64 0 3 #[29, 39, 49, 58] x = 79 := by
  unfold swT
  rw [if_pos h]
  rfl
theorem sw_ix {x : Int32} {N : Nat} (hN : N < 2 ^ 31) (h : ¬ (x.toInt < 0 ∨ (N : Int) < x.toInt)) : ∃ j, j ≤ N ∧ x = nI j := by
  have h1 : ¬ x < 0 := fun e => h (Or.inl (by simpa [Int32.lt_iff_toInt_lt] using e))
  obtain ⟨j, hj, e⟩ := nI_of h1
  subst e
  rw [nI_toInt hj] at h
  exact ⟨j, by omega, rfl⟩
/-! the charter's labels -/
theorem rTc1 {b : Bool} : rT b 0 1 = some (cond b 9 3) := rfl
