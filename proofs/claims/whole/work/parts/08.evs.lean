/-! EQUATIONS OF Ev, a kind of instruction each -/
theorem va_rf_some (b : Nat) : va_rf (some b) = .ref b := rfl
theorem va_rf_none : va_rf none = .null := rfl
theorem pushR_some (v : Value) (st : List Value) : pushR (some v) st = v :: st := rfl
theorem pushR_none (st : List Value) : pushR none st = st := rfl
theorem okR_nil (n : Nat) : okR n [] = true := by cases n <;> first | rfl | (rename_i n; cases n <;> rfl)
theorem okR_int (n : Nat) (x : Int32) (r : List Value) : okR (n + 1) (.int x :: r) = okR n r := by cases n <;> rfl
theorem okR_ref (n : Nat) (x : Nat) (r : List Value) : okR (n + 1) (.ref x :: r) = okR n r := by cases n <;> rfl
theorem okR_null (n : Nat) (r : List Value) : okR (n + 1) (.null :: r) = okR n r := by cases n <;> rfl
theorem okR_long (n : Nat) (x : Int64) (r : List Value) : okR (n + 2) (.long x :: r) = okR n r := rfl
theorem lcl_none : lcl none = none := rfl
theorem lcl_int (x : Int32) : lcl (some (.int x)) = some (.int x) := rfl
theorem lcl_ref (x : Nat) : lcl (some (.ref x)) = some (.ref x) := rfl
theorem lcl_null : lcl (some .null) = some .null := rfl
theorem lcl_long (x : Int64) : lcl (some (.long x)) = none := rfl
section EVS
variable {d mi pc : Nat} {ls ls' : ab_L} {st : List Value} {M : ab_M} {K : ab_Q}
theorem Ev_if {c : Prop} [Decidable c] {t u : Nat} : Ev d mi (if c then t else u) ls st M K = (if c then Ev d mi t ls st M K else Ev d mi u ls st M K) := by
  by_cases h : c
  · rw [if_pos h, if_pos h]
  · rw [if_neg h, if_neg h]
theorem aftr_if {c : Prop} [Decidable c] {q : ab_R} : aftr d mi pc ls M (if c then q else none) K = (c ∧ aftr d mi pc ls M q K) := by
  by_cases h : c
  · rw [if_pos h]
    exact propext ⟨fun q => ⟨h, q⟩, fun q => q.2⟩
  · rw [if_neg h]
    exact propext ⟨fun q => q.elim, fun q => absurd q.1 h⟩
theorem aftr_ifn {c : Prop} [Decidable c] {q : ab_R} : aftr d mi pc ls M (if c then none else q) K = (¬ c ∧ aftr d mi pc ls M q K) := by
  by_cases h : c
  · rw [if_pos h]
    exact propext ⟨fun q => q.elim, fun q => absurd h q.1⟩
  · rw [if_neg h]
    exact propext ⟨fun q => ⟨h, q⟩, fun q => q.2⟩

theorem E_iconst {n : Int} {v : Int32} (hC : lkC mi pc = some (.iconst n)) (hv : Int32.ofInt n = v) : Ev d mi pc ls st M K = Ev d mi (pc + 1) ls (.int v :: st) M K := by
  subst hv
  rw [Ev_step hC]
  rfl

theorem E_bipush {n : Int} {v : Int32} (hC : lkC mi pc = some (.bipush n)) (hv : (Int8.ofInt n).toInt32 = v) : Ev d mi pc ls st M K = Ev d mi (pc + 2) ls (.int v :: st) M K := by
  subst hv
  rw [Ev_step hC]
  rfl

theorem E_sipush {n : Int} {v : Int32} (hC : lkC mi pc = some (.sipush n)) (hv : (Int16.ofInt n).toInt32 = v) : Ev d mi pc ls st M K = Ev d mi (pc + 3) ls (.int v :: st) M K := by
  subst hv
  rw [Ev_step hC]
  rfl

theorem E_lconst {n : Fin 2} {v : Int64} (hC : lkC mi pc = some (.lconst n)) (hv : Int64.ofNat (n : Nat) = v) : Ev d mi pc ls st M K = Ev d mi (pc + 1) ls (.long v :: st) M K := by
  subst hv
  rw [Ev_step hC]
  rfl

theorem E_ldc {i : Nat} {v : Int32} (hC : lkC mi pc = some (.ldc i)) (hv : lkK (ab_o mi) i = some v) : Ev d mi pc ls st M K = Ev d mi (pc + 2) ls (.int v :: st) M K := by
  rw [Ev_step hC]
  simp only [stp, hv]
  rfl

theorem E_ldc_w {i : Nat} {v : Int32} (hC : lkC mi pc = some (.ldc_w i)) (hv : lkK (ab_o mi) i = some v) : Ev d mi pc ls st M K = Ev d mi (pc + 3) ls (.int v :: st) M K := by
  rw [Ev_step hC]
  simp only [stp, hv]
  rfl

theorem E_ldc2_w {i : Nat} {v : Int64} (hC : lkC mi pc = some (.ldc2_w i)) (hv : lkJ (ab_o mi) i = some v) : Ev d mi pc ls st M K = Ev d mi (pc + 3) ls (.long v :: st) M K := by
  rw [Ev_step hC]
  simp only [stp, hv]
  rfl

theorem E_iload {i : Nat} {x : Int32} (hC : lkC mi pc = some (.iload i)) (hl : lg ls i = some (.int x)) : Ev d mi pc ls st M K = Ev d mi (pc + 2) ls (.int x :: st) M K := by
  rw [Ev_step hC]
  simp only [stp, lvI, hl]
  rfl

theorem E_iload_n {i : Fin 4} {x : Int32} (hC : lkC mi pc = some (.iload_n i)) (hl : lg ls i = some (.int x)) : Ev d mi pc ls st M K = Ev d mi (pc + 1) ls (.int x :: st) M K := by
  rw [Ev_step hC]
  simp only [stp, lvI, hl]
  rfl

theorem E_lload {i : Nat} {x : Int64} (hC : lkC mi pc = some (.lload i)) (hl : lg ls i = some (.long x)) : Ev d mi pc ls st M K = Ev d mi (pc + 2) ls (.long x :: st) M K := by
  rw [Ev_step hC]
  simp only [stp, lvJ, hl]
  rfl

theorem E_lload_n {i : Fin 4} {x : Int64} (hC : lkC mi pc = some (.lload_n i)) (hl : lg ls i = some (.long x)) : Ev d mi pc ls st M K = Ev d mi (pc + 1) ls (.long x :: st) M K := by
  rw [Ev_step hC]
  simp only [stp, lvJ, hl]
  rfl

theorem E_aload {i : Nat} {x : Nat} (hC : lkC mi pc = some (.aload i)) (hl : lg ls i = some (.ref x)) : Ev d mi pc ls st M K = Ev d mi (pc + 2) ls (.ref x :: st) M K := by
  rw [Ev_step hC]
  simp only [stp, lvA, hl]
  rfl

theorem E_aload_n {i : Fin 4} {x : Nat} (hC : lkC mi pc = some (.aload_n i)) (hl : lg ls i = some (.ref x)) : Ev d mi pc ls st M K = Ev d mi (pc + 1) ls (.ref x :: st) M K := by
  rw [Ev_step hC]
  simp only [stp, lvA, hl]
  rfl

theorem E_istore {i : Nat} {x : Int32} (hC : lkC mi pc = some (.istore i)) (hl : ls1 ls i (.int x) = some ls') : Ev d mi pc ls (.int x :: st) M K = Ev d mi (pc + 2) ls' st M K := by
  rw [Ev_step hC]
  simp only [stp, qI, qL, hl]
  rfl

theorem E_istore_n {i : Fin 4} {x : Int32} (hC : lkC mi pc = some (.istore_n i)) (hl : ls1 ls i (.int x) = some ls') : Ev d mi pc ls (.int x :: st) M K = Ev d mi (pc + 1) ls' st M K := by
  rw [Ev_step hC]
  simp only [stp, qI, qL, hl]
  rfl

theorem E_lstore {i : Nat} {x : Int64} (hC : lkC mi pc = some (.lstore i)) (hl : ls2 ls i (.long x) = some ls') : Ev d mi pc ls (.long x :: st) M K = Ev d mi (pc + 2) ls' st M K := by
  rw [Ev_step hC]
  simp only [stp, qI, qL, hl]
  rfl

theorem E_lstore_n {i : Fin 4} {x : Int64} (hC : lkC mi pc = some (.lstore_n i)) (hl : ls2 ls i (.long x) = some ls') : Ev d mi pc ls (.long x :: st) M K = Ev d mi (pc + 1) ls' st M K := by
  rw [Ev_step hC]
  simp only [stp, qI, qL, hl]
  rfl

theorem E_astore {i : Nat} {x : Nat} (hC : lkC mi pc = some (.astore i)) (hl : ls1 ls i (.ref x) = some ls') : Ev d mi pc ls (.ref x :: st) M K = Ev d mi (pc + 2) ls' st M K := by
  rw [Ev_step hC]
  simp only [stp, qI, qL, hl]
  rfl

theorem E_astore_n {i : Fin 4} {x : Nat} (hC : lkC mi pc = some (.astore_n i)) (hl : ls1 ls i (.ref x) = some ls') : Ev d mi pc ls (.ref x :: st) M K = Ev d mi (pc + 1) ls' st M K := by
  rw [Ev_step hC]
  simp only [stp, qI, qL, hl]
  rfl

theorem E_iinc {i : Nat} {n : Int} {x v : Int32} (hC : lkC mi pc = some (.iinc i n)) (hl : lg ls i = some (.int x)) (hv : Int32.ofInt n = v) (hs : ls1 ls i (.int (x + v)) = some ls') : Ev d mi pc ls st M K = Ev d mi (pc + 3) ls' st M K := by
  subst hv
  rw [Ev_step hC]
  simp only [stp, lvI, hl, qL, hs]
  rfl

theorem E_iadd {x y : Int32} (hC : lkC mi pc = some (.iadd)) : Ev d mi pc ls (.int y :: .int x :: st) M K = Ev d mi (pc + 1) ls (.int (x + y) :: st) M K := by
  rw [Ev_step hC]
  rfl

theorem E_isub {x y : Int32} (hC : lkC mi pc = some (.isub)) : Ev d mi pc ls (.int y :: .int x :: st) M K = Ev d mi (pc + 1) ls (.int (x - y) :: st) M K := by
  rw [Ev_step hC]
  rfl

theorem E_imul {x y : Int32} (hC : lkC mi pc = some (.imul)) : Ev d mi pc ls (.int y :: .int x :: st) M K = Ev d mi (pc + 1) ls (.int (x * y) :: st) M K := by
  rw [Ev_step hC]
  rfl

theorem E_iand {x y : Int32} (hC : lkC mi pc = some (.iand)) : Ev d mi pc ls (.int y :: .int x :: st) M K = Ev d mi (pc + 1) ls (.int (x &&& y) :: st) M K := by
  rw [Ev_step hC]
  rfl

theorem E_ior {x y : Int32} (hC : lkC mi pc = some (.ior)) : Ev d mi pc ls (.int y :: .int x :: st) M K = Ev d mi (pc + 1) ls (.int (x ||| y) :: st) M K := by
  rw [Ev_step hC]
  rfl

theorem E_ixor {x y : Int32} (hC : lkC mi pc = some (.ixor)) : Ev d mi pc ls (.int y :: .int x :: st) M K = Ev d mi (pc + 1) ls (.int (x ^^^ y) :: st) M K := by
  rw [Ev_step hC]
  rfl

theorem E_ishl {x y : Int32} (hC : lkC mi pc = some (.ishl)) : Ev d mi pc ls (.int y :: .int x :: st) M K = Ev d mi (pc + 1) ls (.int (x <<< (y &&& 31)) :: st) M K := by
  rw [Ev_step hC]
  rfl

theorem E_ishr {x y : Int32} (hC : lkC mi pc = some (.ishr)) : Ev d mi pc ls (.int y :: .int x :: st) M K = Ev d mi (pc + 1) ls (.int (x >>> (y &&& 31)) :: st) M K := by
  rw [Ev_step hC]
  rfl

theorem E_iushr {x y : Int32} (hC : lkC mi pc = some (.iushr)) : Ev d mi pc ls (.int y :: .int x :: st) M K = Ev d mi (pc + 1) ls (.int ((x.toUInt32 >>> (y.toUInt32 &&& Int32.toUInt32 31)).toInt32) :: st) M K := by
  rw [Ev_step hC]
  rfl

theorem E_idiv {x y : Int32} (hC : lkC mi pc = some (.idiv)) : Ev d mi pc ls (.int y :: .int x :: st) M K = (¬ y = 0 ∧ Ev d mi (pc + 1) ls (.int (x / y) :: st) M K) := by
  rw [Ev_step hC]
  exact aftr_ifn

theorem E_irem {x y : Int32} (hC : lkC mi pc = some (.irem)) : Ev d mi pc ls (.int y :: .int x :: st) M K = (¬ y = 0 ∧ Ev d mi (pc + 1) ls (.int (x - x / y * y) :: st) M K) := by
  rw [Ev_step hC]
  exact aftr_ifn

theorem E_ineg {x : Int32} (hC : lkC mi pc = some (.ineg)) : Ev d mi pc ls (.int x :: st) M K = Ev d mi (pc + 1) ls (.int (-x) :: st) M K := by
  rw [Ev_step hC]
  rfl

theorem E_ladd {x y : Int64} (hC : lkC mi pc = some (.ladd)) : Ev d mi pc ls (.long y :: .long x :: st) M K = Ev d mi (pc + 1) ls (.long (x + y) :: st) M K := by
  rw [Ev_step hC]
  rfl

theorem E_lsub {x y : Int64} (hC : lkC mi pc = some (.lsub)) : Ev d mi pc ls (.long y :: .long x :: st) M K = Ev d mi (pc + 1) ls (.long (x - y) :: st) M K := by
  rw [Ev_step hC]
  rfl

theorem E_lmul {x y : Int64} (hC : lkC mi pc = some (.lmul)) : Ev d mi pc ls (.long y :: .long x :: st) M K = Ev d mi (pc + 1) ls (.long (x * y) :: st) M K := by
  rw [Ev_step hC]
  rfl

theorem E_ldiv {x y : Int64} (hC : lkC mi pc = some (.ldiv)) : Ev d mi pc ls (.long y :: .long x :: st) M K = (¬ y = 0 ∧ Ev d mi (pc + 1) ls (.long (x / y) :: st) M K) := by
  rw [Ev_step hC]
  exact aftr_ifn

theorem E_lrem {x y : Int64} (hC : lkC mi pc = some (.lrem)) : Ev d mi pc ls (.long y :: .long x :: st) M K = (¬ y = 0 ∧ Ev d mi (pc + 1) ls (.long (x - x / y * y) :: st) M K) := by
  rw [Ev_step hC]
  exact aftr_ifn

theorem E_lcmp {x y : Int64} (hC : lkC mi pc = some (.lcmp)) : Ev d mi pc ls (.long y :: .long x :: st) M K = Ev d mi (pc + 1) ls (.int (lg_cmp x y) :: st) M K := by
  rw [Ev_step hC]
  rfl

theorem E_i2l {x : Int32} (hC : lkC mi pc = some (.i2l)) : Ev d mi pc ls (.int x :: st) M K = Ev d mi (pc + 1) ls (.long x.toInt64 :: st) M K := by
  rw [Ev_step hC]
  rfl

theorem E_l2i {x : Int64} (hC : lkC mi pc = some (.l2i)) : Ev d mi pc ls (.long x :: st) M K = Ev d mi (pc + 1) ls (.int x.toInt32 :: st) M K := by
  rw [Ev_step hC]
  rfl

theorem E_dup_int {x : Int32} (hC : lkC mi pc = some (.dup)) : Ev d mi pc ls (.int x :: st) M K = Ev d mi (pc + 1) ls (.int x :: .int x :: st) M K := by
  rw [Ev_step hC]
  rfl

theorem E_pop_int {x : Int32} (hC : lkC mi pc = some (.pop)) : Ev d mi pc ls (.int x :: st) M K = Ev d mi (pc + 1) ls st M K := by
  rw [Ev_step hC]
  rfl

theorem E_dup_ref {x : Nat} (hC : lkC mi pc = some (.dup)) : Ev d mi pc ls (.ref x :: st) M K = Ev d mi (pc + 1) ls (.ref x :: .ref x :: st) M K := by
  rw [Ev_step hC]
  rfl

theorem E_pop_ref {x : Nat} (hC : lkC mi pc = some (.pop)) : Ev d mi pc ls (.ref x :: st) M K = Ev d mi (pc + 1) ls st M K := by
  rw [Ev_step hC]
  rfl

theorem E_dup2 {x : Int32} {a : Nat} (hC : lkC mi pc = some (.dup2)) : Ev d mi pc ls (.int x :: .ref a :: st) M K = Ev d mi (pc + 1) ls (.int x :: .ref a :: .int x :: .ref a :: st) M K := by
  rw [Ev_step hC]
  rfl

theorem E_goto {off : Int} {t : Nat} (hC : lkC mi pc = some (.goto off)) (ht : (pc : Int) + off = (t : Int)) : Ev d mi pc ls st M K = Ev d mi t ls st M K := by
  rw [Ev_step hC]
  simp only [stp, qT, ht]
  rfl

theorem E_if_icmp_eq {off : Int} {t : Nat} {x y : Int32} (hC : lkC mi pc = some (.if_icmp .eq off)) (ht : (pc : Int) + off = (t : Int)) : Ev d mi pc ls (.int y :: .int x :: st) M K = (if x = y then Ev d mi t ls st M K else Ev d mi (pc + 3) ls st M K) := by
  rw [Ev_step hC]
  simp only [stp, qII, qI, qT, ht]
  exact Ev_if

theorem E_ifCond_eq {off : Int} {t : Nat} {x : Int32} (hC : lkC mi pc = some (.ifCond .eq off)) (ht : (pc : Int) + off = (t : Int)) : Ev d mi pc ls (.int x :: st) M K = (if x = 0 then Ev d mi t ls st M K else Ev d mi (pc + 3) ls st M K) := by
  rw [Ev_step hC]
  simp only [stp, qII, qI, qT, ht]
  exact Ev_if

theorem E_if_icmp_ne {off : Int} {t : Nat} {x y : Int32} (hC : lkC mi pc = some (.if_icmp .ne off)) (ht : (pc : Int) + off = (t : Int)) : Ev d mi pc ls (.int y :: .int x :: st) M K = (if x = y then Ev d mi (pc + 3) ls st M K else Ev d mi t ls st M K) := by
  rw [Ev_step hC]
  simp only [stp, qII, qI, qT, ht]
  exact Ev_if

theorem E_ifCond_ne {off : Int} {t : Nat} {x : Int32} (hC : lkC mi pc = some (.ifCond .ne off)) (ht : (pc : Int) + off = (t : Int)) : Ev d mi pc ls (.int x :: st) M K = (if x = 0 then Ev d mi (pc + 3) ls st M K else Ev d mi t ls st M K) := by
  rw [Ev_step hC]
  simp only [stp, qII, qI, qT, ht]
  exact Ev_if

theorem E_if_icmp_lt {off : Int} {t : Nat} {x y : Int32} (hC : lkC mi pc = some (.if_icmp .lt off)) (ht : (pc : Int) + off = (t : Int)) : Ev d mi pc ls (.int y :: .int x :: st) M K = (if x < y then Ev d mi t ls st M K else Ev d mi (pc + 3) ls st M K) := by
  rw [Ev_step hC]
  simp only [stp, qII, qI, qT, ht]
  exact Ev_if

theorem E_ifCond_lt {off : Int} {t : Nat} {x : Int32} (hC : lkC mi pc = some (.ifCond .lt off)) (ht : (pc : Int) + off = (t : Int)) : Ev d mi pc ls (.int x :: st) M K = (if x < 0 then Ev d mi t ls st M K else Ev d mi (pc + 3) ls st M K) := by
  rw [Ev_step hC]
  simp only [stp, qII, qI, qT, ht]
  exact Ev_if

theorem E_if_icmp_ge {off : Int} {t : Nat} {x y : Int32} (hC : lkC mi pc = some (.if_icmp .ge off)) (ht : (pc : Int) + off = (t : Int)) : Ev d mi pc ls (.int y :: .int x :: st) M K = (if y ≤ x then Ev d mi t ls st M K else Ev d mi (pc + 3) ls st M K) := by
  rw [Ev_step hC]
  simp only [stp, qII, qI, qT, ht]
  exact Ev_if

theorem E_ifCond_ge {off : Int} {t : Nat} {x : Int32} (hC : lkC mi pc = some (.ifCond .ge off)) (ht : (pc : Int) + off = (t : Int)) : Ev d mi pc ls (.int x :: st) M K = (if 0 ≤ x then Ev d mi t ls st M K else Ev d mi (pc + 3) ls st M K) := by
  rw [Ev_step hC]
  simp only [stp, qII, qI, qT, ht]
  exact Ev_if

theorem E_if_icmp_gt {off : Int} {t : Nat} {x y : Int32} (hC : lkC mi pc = some (.if_icmp .gt off)) (ht : (pc : Int) + off = (t : Int)) : Ev d mi pc ls (.int y :: .int x :: st) M K = (if y < x then Ev d mi t ls st M K else Ev d mi (pc + 3) ls st M K) := by
  rw [Ev_step hC]
  simp only [stp, qII, qI, qT, ht]
  exact Ev_if

theorem E_ifCond_gt {off : Int} {t : Nat} {x : Int32} (hC : lkC mi pc = some (.ifCond .gt off)) (ht : (pc : Int) + off = (t : Int)) : Ev d mi pc ls (.int x :: st) M K = (if 0 < x then Ev d mi t ls st M K else Ev d mi (pc + 3) ls st M K) := by
  rw [Ev_step hC]
  simp only [stp, qII, qI, qT, ht]
  exact Ev_if

theorem E_if_icmp_le {off : Int} {t : Nat} {x y : Int32} (hC : lkC mi pc = some (.if_icmp .le off)) (ht : (pc : Int) + off = (t : Int)) : Ev d mi pc ls (.int y :: .int x :: st) M K = (if x ≤ y then Ev d mi t ls st M K else Ev d mi (pc + 3) ls st M K) := by
  rw [Ev_step hC]
  simp only [stp, qII, qI, qT, ht]
  exact Ev_if

theorem E_ifCond_le {off : Int} {t : Nat} {x : Int32} (hC : lkC mi pc = some (.ifCond .le off)) (ht : (pc : Int) + off = (t : Int)) : Ev d mi pc ls (.int x :: st) M K = (if x ≤ 0 then Ev d mi t ls st M K else Ev d mi (pc + 3) ls st M K) := by
  rw [Ev_step hC]
  simp only [stp, qII, qI, qT, ht]
  exact Ev_if

def swT (pc : Nat) (df lo hi : Int) (offs : Array Int) (x : Int32) : Nat := if x.toInt < lo ∨ hi < x.toInt then ((pc : Int) + df).toNat else ((pc : Int) + offs.getD (x.toInt - lo).toNat 0).toNat
theorem E_tableswitch {df lo hi : Int} {offs : Array Int} {x : Int32} (hC : lkC mi pc = some (.tableswitch df lo hi offs)) (h1 : 0 ≤ (pc : Int) + df) (h2 : ∀ o ∈ offs.toList, 0 ≤ (pc : Int) + o) (h3 : hi - lo + 1 = offs.size) : Ev d mi pc ls (.int x :: st) M K = Ev d mi (swT pc df lo hi offs x) ls st M K := by
  rw [Ev_step hC]
  simp only [stp, qI]
  unfold swT
  have key : ∀ o : Int, 0 ≤ (pc : Int) + o → aftr d mi pc ls M (qT pc o fun t => qN t ls st M) K = Ev d mi ((pc : Int) + o).toNat ls st M K := by
    intro o ho
    obtain ⟨t, ht⟩ := Int.eq_ofNat_of_zero_le ho
    unfold qT
    rw [ht]
    rfl
  by_cases c : x.toInt < lo ∨ hi < x.toInt
  · rw [if_pos c, if_pos c]
    exact key _ h1
  · rw [if_neg c, if_neg c]
    have hlt : (x.toInt - lo).toNat < offs.size := by omega
    have he : offs[(x.toInt - lo).toNat]? = some offs[(x.toInt - lo).toNat] := Array.getElem?_eq_getElem hlt
    rw [Array.getD_eq_getD_getElem?, he]
    exact key _ (h2 _ (by simp))

theorem E_getI {i a ci f t : Nat} {fin : Bool} (hC : lkC mi pc = some (.getfield i)) (hF : lkF (ab_o mi) i = some (ci, f, t, fin)) (ht : (t == 2) = false) : Ev d mi pc ls (.ref a :: st) M K = (mK M a = ci ∧ Ev d mi (pc + 3) ls (.int (mI M a f) :: st) M K) := by
  rw [Ev_step hC]
  simp only [stp, bGet, hF]
  rw [aftr_if]
  have h0 : fvl M a f t = .int (mI M a f) := by
    unfold fvl
    split
    · cases ht
    · rfl
  rw [h0]
  rfl

theorem E_getR {i a ci f : Nat} {fin : Bool} (hC : lkC mi pc = some (.getfield i)) (hF : lkF (ab_o mi) i = some (ci, f, 2, fin)) : Ev d mi pc ls (.ref a :: st) M K = (mK M a = ci ∧ Ev d mi (pc + 3) ls (va_rf (mR M a f) :: st) M K) := by
  rw [Ev_step hC]
  simp only [stp, bGet, hF]
  rw [aftr_if]
  rfl

theorem E_putI {i a ci f : Nat} {fin : Bool} {x : Int32} (hC : lkC mi pc = some (.putfield i)) (hF : lkF (ab_o mi) i = some (ci, f, 0, fin)) (ho : fin = false ∨ (ab_ini mi = true ∧ ab_o mi = ci)) : Ev d mi pc ls (.int x :: .ref a :: st) M K = (mK M a = ci ∧ Ev d mi (pc + 3) ls st (wI M a f x) K) := by
  rw [Ev_step hC]
  simp only [stp, bPut, hF]
  rw [aftr_if]
  have h1 : (mK M a = ci ∧ (fin = false ∨ (ab_ini mi = true ∧ ab_o mi = ci))) = (mK M a = ci) := propext ⟨fun h => h.1, fun h => ⟨h, ho⟩⟩
  rw [h1]
  rfl

theorem E_putZ {i a ci f : Nat} {fin : Bool} {x : Int32} (hC : lkC mi pc = some (.putfield i)) (hF : lkF (ab_o mi) i = some (ci, f, 1, fin)) (ho : fin = false ∨ (ab_ini mi = true ∧ ab_o mi = ci)) : Ev d mi pc ls (.int x :: .ref a :: st) M K = (mK M a = ci ∧ (x = 0 ∨ x = 1) ∧ Ev d mi (pc + 3) ls st (wI M a f x) K) := by
  rw [Ev_step hC]
  simp only [stp, bPut, hF]
  rw [aftr_if]
  have h1 : (mK M a = ci ∧ (fin = false ∨ (ab_ini mi = true ∧ ab_o mi = ci))) = (mK M a = ci) := propext ⟨fun h => h.1, fun h => ⟨h, ho⟩⟩
  rw [h1]
  rw [aftr_if]
  rfl

theorem E_putR {i a ci f b : Nat} {fin : Bool} (hC : lkC mi pc = some (.putfield i)) (hF : lkF (ab_o mi) i = some (ci, f, 2, fin)) (ho : fin = false ∨ (ab_ini mi = true ∧ ab_o mi = ci)) : Ev d mi pc ls (.ref b :: .ref a :: st) M K = (mK M a = ci ∧ Ev d mi (pc + 3) ls st (wR M a f (some b)) K) := by
  rw [Ev_step hC]
  simp only [stp, bPut, hF]
  rw [aftr_if]
  have h1 : (mK M a = ci ∧ (fin = false ∨ (ab_ini mi = true ∧ ab_o mi = ci))) = (mK M a = ci) := propext ⟨fun h => h.1, fun h => ⟨h, ho⟩⟩
  rw [h1]
  rfl

theorem E_iaload {i : Int32} {a : Nat} (hC : lkC mi pc = some (.iaload)) : Ev d mi pc ls (.int i :: .ref a :: st) M K = (mK M a = 20 ∧ inX i (mN M a) ∧ Ev d mi (pc + 1) ls (.int (mI M a i.toNatClampNeg) :: st) M K) := by
  rw [Ev_step hC]
  simp only [stp, bIld]
  rw [aftr_if, and_assoc]
  rfl

theorem E_baload {i : Int32} {a : Nat} (hC : lkC mi pc = some (.baload)) : Ev d mi pc ls (.int i :: .ref a :: st) M K = (mK M a = 22 ∧ inX i (mN M a) ∧ Ev d mi (pc + 1) ls (.int (mI M a i.toNatClampNeg) :: st) M K) := by
  rw [Ev_step hC]
  simp only [stp, bIld]
  rw [aftr_if, and_assoc]
  rfl

theorem E_laload {i : Int32} {a : Nat} (hC : lkC mi pc = some (.laload)) : Ev d mi pc ls (.int i :: .ref a :: st) M K = (mK M a = 21 ∧ inX i (mN M a) ∧ Ev d mi (pc + 1) ls (.long (mJ M a i.toNatClampNeg) :: st) M K) := by
  rw [Ev_step hC]
  simp only [stp, bIld]
  rw [aftr_if, and_assoc]
  rfl

theorem E_aaload {i : Int32} {a : Nat} (hC : lkC mi pc = some (.aaload)) : Ev d mi pc ls (.int i :: .ref a :: st) M K = (mK M a = 23 ∧ inX i (mN M a) ∧ Ev d mi (pc + 1) ls (va_rf (mR M a i.toNatClampNeg) :: st) M K) := by
  rw [Ev_step hC]
  simp only [stp, bIld]
  rw [aftr_if, and_assoc]
  rfl

theorem E_iastore {i x : Int32} {a : Nat} (hC : lkC mi pc = some (.iastore)) : Ev d mi pc ls (.int x :: .int i :: .ref a :: st) M K = (mK M a = 20 ∧ inX i (mN M a) ∧ Ev d mi (pc + 1) ls st (wI M a i.toNatClampNeg x) K) := by
  rw [Ev_step hC]
  simp only [stp, bIld]
  rw [aftr_if, and_assoc]
  rfl

theorem E_bastore {i x : Int32} {a : Nat} (hC : lkC mi pc = some (.bastore)) : Ev d mi pc ls (.int x :: .int i :: .ref a :: st) M K = (mK M a = 22 ∧ inX i (mN M a) ∧ (x = 0 ∨ x = 1) ∧ Ev d mi (pc + 1) ls st (wI M a i.toNatClampNeg x) K) := by
  rw [Ev_step hC]
  simp only [stp]
  rw [aftr_if, and_assoc, and_assoc]
  rfl

theorem E_lastore {i : Int32} {x : Int64} {a : Nat} (hC : lkC mi pc = some (.lastore)) : Ev d mi pc ls (.long x :: .int i :: .ref a :: st) M K = (mK M a = 21 ∧ inX i (mN M a) ∧ Ev d mi (pc + 1) ls st (wJ M a i.toNatClampNeg x) K) := by
  rw [Ev_step hC]
  simp only [stp, bIld]
  rw [aftr_if, and_assoc]
  rfl

theorem E_aastore {i : Int32} {b a : Nat} (hC : lkC mi pc = some (.aastore)) : Ev d mi pc ls (.ref b :: .int i :: .ref a :: st) M K = (mK M a = 23 ∧ inX i (mN M a) ∧ mK M b = 7 ∧ Ev d mi (pc + 1) ls st (wR M a i.toNatClampNeg (some b)) K) := by
  rw [Ev_step hC]
  simp only [stp]
  rw [aftr_if, and_assoc, and_assoc]
  rfl

theorem E_new {i ci n : Nat} (hC : lkC mi pc = some (.new i)) (hN : lkN (ab_o mi) i = some ci) (hn : ab_nF ci = n) : Ev d mi pc ls st M K = Ev d mi (pc + 3) ls (.ref (mZ M) :: st) (mNew M ci 0 n) K := by
  subst hn
  rw [Ev_step hC]
  simp only [stp, hN]
  rfl

theorem E_newarray {t : ArrayType} {kd : Nat} {n : Int32} (hC : lkC mi pc = some (.newarray t)) (hk : akd t = some kd) : Ev d mi pc ls (.int n :: st) M K = ((¬ n < 0 ∧ n.toNatClampNeg ≤ 1000) ∧ Ev d mi (pc + 2) ls (.ref (mZ M) :: st) (mNew M kd n.toNatClampNeg n.toNatClampNeg) K) := by
  rw [Ev_step hC]
  simp only [stp, hk, qI]
  rw [aftr_if]
  rfl

theorem E_anewarray {i : Nat} {n : Int32} (hC : lkC mi pc = some (.anewarray i)) (hN : lkN (ab_o mi) i = some 7) : Ev d mi pc ls (.int n :: st) M K = ((¬ n < 0 ∧ n.toNatClampNeg ≤ 1000) ∧ Ev d mi (pc + 3) ls (.ref (mZ M) :: st) (mNew M 23 n.toNatClampNeg n.toNatClampNeg) K) := by
  rw [Ev_step hC]
  simp only [stp, hN, qI]
  rw [aftr_if]
  rfl

theorem E_callV {i y n a o : Nat} {as r : List Value} (hC : lkC mi pc = some (.invokevirtual i)) (hY : lkY (ab_o mi) i = some (0, y, n)) (hp : popN n st [] = some (as, .ref a :: r)) (ho : ab_o y = o) : Ev d mi pc ls st M K = (mK M a = o ∧ okR 8 r = true ∧ EvD d y (.ref a :: as) M (fun q N => Ev d mi (pc + 3) ls (pushR q r) N K)) := by
  subst ho
  rw [Ev_step hC]
  simp only [stp, bV, hY, hp, bCall]
  rw [aftr_if, aftr_if]
  rfl

theorem E_callS {i y n kd : Nat} {as r : List Value} (hC : lkC mi pc = some (.invokestatic i)) (hk : kd = 1 ∨ kd = 4) (hY : lkY (ab_o mi) i = some (kd, y, n)) (hp : popN n st [] = some (as, r)) : Ev d mi pc ls st M K = (okR 8 r = true ∧ EvD d y as M (fun q N => Ev d mi (pc + 3) ls (pushR q r) N K)) := by
  rw [Ev_step hC]
  rcases hk with rfl | rfl
  · simp only [stp, bSt, hY, hp, bCall]
    rw [aftr_if]
    rfl
  · simp only [stp, bSt, hY, hp, bCall]
    rw [aftr_if]
    rfl

theorem E_callI {i y n a kd : Nat} {as r : List Value} (hC : lkC mi pc = some (.invokespecial i)) (hk : kd = 2 ∨ kd = 5) (hY : lkY (ab_o mi) i = some (kd, y, n)) (hp : popN n st [] = some (as, .ref a :: r)) : Ev d mi pc ls st M K = (okR 8 r = true ∧ EvD d y (.ref a :: as) M (fun q N => Ev d mi (pc + 3) ls (pushR q r) N K)) := by
  rw [Ev_step hC]
  rcases hk with rfl | rfl
  · simp only [stp, bSp, hY, hp, bCall]
    rw [aftr_if]
    rfl
  · simp only [stp, bSp, hY, hp, bCall]
    rw [aftr_if]
    rfl

theorem E_objInit {i y n a : Nat} (hC : lkC mi pc = some (.invokespecial i)) (hY : lkY (ab_o mi) i = some (6, y, n)) : Ev d mi pc ls (.ref a :: st) M K = (okR 8 st = true ∧ Ev d mi (pc + 3) ls st M K) := by
  rw [Ev_step hC]
  simp only [stp, bSp, hY]
  rw [aftr_if]
  rfl

theorem E_copy {i y n a b : Nat} {sp dp k : Int32} (hC : lkC mi pc = some (.invokestatic i)) (hY : lkY (ab_o mi) i = some (7, y, n)) : Ev d mi pc ls (.int k :: .int dp :: .ref b :: .int sp :: .ref a :: st) M K = ((mK M a = 20 ∧ mK M b = 20 ∧ a ≠ b ∧ ¬ sp < 0 ∧ ¬ dp < 0 ∧ ¬ k < 0 ∧ sp.toNatClampNeg + k.toNatClampNeg ≤ mN M a ∧ dp.toNatClampNeg + k.toNatClampNeg ≤ mN M b ∧ okR 8 st = true) ∧ Ev d mi (pc + 3) ls st (mCpy M a sp.toNatClampNeg b dp.toNatClampNeg k.toNatClampNeg) K) := by
  rw [Ev_step hC]
  simp only [stp, bSt, hY]
  rw [aftr_if]
  rfl

theorem E_abs {i y n : Nat} {x : Int32} (hC : lkC mi pc = some (.invokestatic i)) (hY : lkY (ab_o mi) i = some (8, y, n)) : Ev d mi pc ls (.int x :: st) M K = (okR 8 st = true ∧ Ev d mi (pc + 3) ls (.int (if 0 ≤ x then x else 0 - x) :: st) M K) := by
  rw [Ev_step hC]
  simp only [stp, bSt, hY]
  rw [aftr_if]
  rfl

theorem E_min {i j n : Nat} {x y : Int32} (hC : lkC mi pc = some (.invokestatic i)) (hY : lkY (ab_o mi) i = some (9, j, n)) : Ev d mi pc ls (.int y :: .int x :: st) M K = (okR 8 st = true ∧ Ev d mi (pc + 3) ls (.int (if y < x then y else x) :: st) M K) := by
  rw [Ev_step hC]
  simp only [stp, bSt, hY]
  rw [aftr_if]
  rfl

theorem E_iret {x : Int32} (hC : lkC mi pc = some (.ireturn)) (hr : ab_ret mi = some .int) : Ev d mi pc ls [.int x] M K = K (some (.int x)) M := by
  rw [Ev_step hC]
  simp only [stp, hr]
  rfl

theorem E_zret {x : Int32} (hC : lkC mi pc = some (.ireturn)) (hr : ab_ret mi = some .boolean) : Ev d mi pc ls [.int x] M K = ((x = 0 ∨ x = 1) ∧ K (some (.int x)) M) := by
  rw [Ev_step hC]
  simp only [stp, hr]
  rw [aftr_if]
  rfl

theorem E_lret {x : Int64} (hC : lkC mi pc = some (.lreturn)) (hr : ab_ret mi = some .long) : Ev d mi pc ls [.long x] M K = K (some (.long x)) M := by
  rw [Ev_step hC]
  simp only [stp, hr]
  rfl

theorem E_aret {x : Nat} {nm : String} (hC : lkC mi pc = some (.areturn)) (hr : ab_ret mi = some (.object nm)) : Ev d mi pc ls [.ref x] M K = K (some (.ref x)) M := by
  rw [Ev_step hC]
  simp only [stp, hr]
  rfl

theorem E_vret (hC : lkC mi pc = some (.return_)) (hr : ab_ret mi = none) : Ev d mi pc ls [] M K = K none M := by
  rw [Ev_step hC]
  simp only [stp, hr]
  rfl

theorem EvB {d y k n : Nat} {as : List Value} {ls : ab_L} {M : ab_M} {K : ab_Q} (hr : ab_rk y = k + 1) (hn : ab_ml y = n) (hd : k + 1 ≤ d) (hp : padA n as = ls) (hl : ls.length = n) : EvD d y as M K = Ev k y 0 ls [] M K := by
  subst hn
  subst hp
  rw [EvD_rank (by rw [hr]; exact hd), hr, EvD_body (by rw [hr]; omega) hl]
end EVS
/-! memory -/
theorem mI_wI (M : ab_M) (a k : Nat) (v : Int32) (b j : Nat) : mI (wI M a k v) b j = if b = a ∧ j = k then v else mI M b j := rfl
theorem mI_wJ (M : ab_M) (a k : Nat) (v : Int64) : mI (wJ M a k v) = mI M := rfl
theorem mI_wR (M : ab_M) (a k : Nat) (v : Option Nat) : mI (wR M a k v) = mI M := rfl
theorem mJ_wI (M : ab_M) (a k : Nat) (v : Int32) : mJ (wI M a k v) = mJ M := rfl
theorem mJ_wJ (M : ab_M) (a k : Nat) (v : Int64) (b j : Nat) : mJ (wJ M a k v) b j = if b = a ∧ j = k then v else mJ M b j := rfl
theorem mJ_wR (M : ab_M) (a k : Nat) (v : Option Nat) : mJ (wR M a k v) = mJ M := rfl
theorem mR_wI (M : ab_M) (a k : Nat) (v : Int32) : mR (wI M a k v) = mR M := rfl
theorem mR_wJ (M : ab_M) (a k : Nat) (v : Int64) : mR (wJ M a k v) = mR M := rfl
theorem mR_wR (M : ab_M) (a k : Nat) (v : Option Nat) (b j : Nat) : mR (wR M a k v) b j = if b = a ∧ j = k then v else mR M b j := rfl
theorem mK_wI (M : ab_M) (a k : Nat) (v : Int32) : mK (wI M a k v) = mK M := rfl
theorem mK_wJ (M : ab_M) (a k : Nat) (v : Int64) : mK (wJ M a k v) = mK M := rfl
theorem mK_wR (M : ab_M) (a k : Nat) (v : Option Nat) : mK (wR M a k v) = mK M := rfl
theorem mN_wI (M : ab_M) (a k : Nat) (v : Int32) : mN (wI M a k v) = mN M := rfl
theorem mN_wJ (M : ab_M) (a k : Nat) (v : Int64) : mN (wJ M a k v) = mN M := rfl
theorem mN_wR (M : ab_M) (a k : Nat) (v : Option Nat) : mN (wR M a k v) = mN M := rfl
theorem mZ_wI (M : ab_M) (a k : Nat) (v : Int32) : mZ (wI M a k v) = mZ M := rfl
theorem mZ_wJ (M : ab_M) (a k : Nat) (v : Int64) : mZ (wJ M a k v) = mZ M := rfl
theorem mZ_wR (M : ab_M) (a k : Nat) (v : Option Nat) : mZ (wR M a k v) = mZ M := rfl
theorem mS_wI (M : ab_M) (a k : Nat) (v : Int32) : mS (wI M a k v) = mS M := rfl
theorem mS_wJ (M : ab_M) (a k : Nat) (v : Int64) : mS (wJ M a k v) = mS M := rfl
theorem mS_wR (M : ab_M) (a k : Nat) (v : Option Nat) : mS (wR M a k v) = mS M := rfl
theorem mI_mCpy (M : ab_M) (a sp b dp n c : Nat) : mI (mCpy M a sp b dp n) c = if c = b then cpF (mI M a) (mI M b) sp dp n else mI M c := rfl
theorem mJ_mCpy (M : ab_M) (a sp b dp n : Nat) : mJ (mCpy M a sp b dp n) = mJ M := rfl
theorem mR_mCpy (M : ab_M) (a sp b dp n : Nat) : mR (mCpy M a sp b dp n) = mR M := rfl
theorem mK_mCpy (M : ab_M) (a sp b dp n : Nat) : mK (mCpy M a sp b dp n) = mK M := rfl
theorem mN_mCpy (M : ab_M) (a sp b dp n : Nat) : mN (mCpy M a sp b dp n) = mN M := rfl
theorem mZ_mCpy (M : ab_M) (a sp b dp n : Nat) : mZ (mCpy M a sp b dp n) = mZ M := rfl
theorem mS_mCpy (M : ab_M) (a sp b dp n : Nat) : mS (mCpy M a sp b dp n) = mS M := rfl

