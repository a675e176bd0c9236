/-! THE LAW FROM ITS ENTRY -/
def mE : ab_M := (fun _ _ => 0, fun _ _ => 0, fun _ => 99, fun _ => 0, fun _ _ => none, 0, 0)
def mNorm (M : ab_M) : ab_M := (mI M, mJ M, kT, nT, rT false, 121, 1584)
def rN (a : Nat) : Nat := if kT a < 12 then ab_nF (kT a) else if kT a = 23 then nT a else 0
def mOk (M : ab_M) : Prop := mZ M = 121 ∧ mS M ≤ 100000 ∧ ∀ a, a < 121 → mK M a = kT a ∧ mN M a = nT a ∧ ∀ k, k < rN a → mR M a k = rT false a k
theorem arrV_congr {cA : ClassId} {n : Nat} {f g : Nat → Value} (h : ∀ j, j < n → f j = g j) : arrV cA n f = arrV cA n g := by
  unfold arrV
  congr 1
  apply Array.ext
  · simp
  · intro j h1 h2
    simp only [Array.getElem_ofFn]
    exact h j (by simpa using h1)
theorem kT_lt : ∀ a, a < 121 → kT a < 12 ∨ kT a = 20 ∨ kT a = 21 ∨ kT a = 22 ∨ (kT a = 23 ∧ nT a ≤ 36) := by decide +kernel
theorem nF_lt : ∀ ci, ci < 12 → ab_nF ci ≤ 36 := by decide +kernel
theorem ab_Wd.norm {D : va_G} {dA : Nat → ClassId} {base : Nat} {M : ab_M} {H : Heap} (h : ab_Wd D dA base M H) (ho : mOk M) : ab_Wd D dA base (mNorm M) H := by
  obtain ⟨h1, h2, h3⟩ := ho
  refine ⟨by rw [h.1, h1]; rfl, fun a ha => ?_, fun a ha => ?_⟩
  · have ha' : a < 121 := ha
    obtain ⟨e1, e2, e3⟩ := h3 a ha'
    have hc := h.2.1 a (by rw [h1]; exact ha')
    unfold ab_cell at hc ⊢
    have f1 : mK (mNorm M) a = kT a := rfl
    have f2 : mN (mNorm M) a = nT a := rfl
    rw [e1] at hc
    rw [f1]
    by_cases c1 : kT a < 12
    · rw [if_pos c1] at hc ⊢
      refine hc.to (fun k hk => ?_)
      congr 1
      unfold fvl
      split
      · have := e3 k (by rw [rN, if_pos c1]; exact hk)
        rw [this]
        rfl
      · rfl
    · rw [if_neg c1] at hc ⊢
      by_cases c2 : kT a = 21
      · rw [if_pos c2] at hc ⊢
        rw [hc, f2, e2]
        rfl
      · rw [if_neg c2] at hc ⊢
        by_cases c3 : kT a = 23
        · rw [if_pos c3] at hc ⊢
          rw [hc, f2, e2, vp_cell_q, vp_cell_q]
          congr 1
          refine arrV_congr (fun j hj => ?_)
          have h9 := kT_lt a ha'
          have : nT a ≤ 36 := by omega
          have := e3 j (by rw [rN, if_neg c1, if_pos c3]; omega)
          rw [this]
          rfl
        · rw [if_neg c3] at hc ⊢
          rw [hc, f2, e2]
          rfl
  · show kT a = 99
    have ha' : 121 ≤ a := ha
    unfold kT
    rw [List.getD_eq_getElem?_getD, List.getElem?_eq_none (by exact ha')]
    rfl
section STA
variable {p : Program} {l : Launch} {e : Env} {s : State} {m : MethodId} {b : Nat} {below : List Frame} {meth : Method} {c : Code} {H : Heap} {locs : List Loc} {cells slots : Nat} {Q : State → Prop}
variable {D : va_G} {dA : Nat → ClassId} {base pc : Nat} {M : ab_M} {lsA : Array Slot} {L : Nat} {xs : Nat → Int32}
set_option maxHeartbeats 1000000 in
theorem law_new (hC : lwC p s m c b D dA L xs) {idx ci : Nat} {C : String} {T : u_T} {N : Nat} {st : List Value} (hcl : ab_cl[ci]? = some (C, T, N)) (w1 : Cond.classLink "ParrotTontineLaw" idx C ∈ ab_W) (w2 : Cond.instantiable C N ∈ ab_W) (w3 : Cond.initialized C ∈ ab_W) (hdg : decode code pc = .ok (.new idx, 3)) (hWd : ab_Wd D dA base M H) (hF : ab_Fr base s.heap H locs) (hbs : base ≤ H.size) (hc : cells + 1 ≤ 600000) (hsl : slots + N ≤ 7302250)
    (k : ∀ H1, ab_Wd D dA base (mNew M ci 0 N) H1 → ab_Fr base s.heap H1 locs → W p l e room_1 s m #[Value.ref b] below meth c H1 locs (cells + 1) (slots + N) Q (F0 m (pc + 3) lsA (.ref (base + mZ M) :: st))) : W p l e room_1 s m #[Value.ref b] below meth c H locs cells slots Q (F0 m pc lsA st) := by
  obtain ⟨hx, hb, hml, hown, hts, hX, hbl, hK, hL⟩ := hC
  have hW := ab_W_hts hts
  obtain ⟨h12, hnF, hall, -⟩ := ab_cl_ok _ _ _ _ hcl
  have hKn := hK.1.1 ci _ hcl
  have hsz := hWd.1
  refine W.newcK (g := F0 m pc lsA st) hx hb hown (hW _ w1) (hW _ w2) (hW _ w3) rfl hdg hc hsl hKn.2.1 hsz (fun H1 kC hkC e1 z1 o1 => ?_)
  have o1' : ∀ q : Nat, q < H.size → H1[q]? = H[q]? := fun q hq => o1 q (by omega)
  refine k H1 (hWd.new (by omega) o1' ?_) (hF.new (by omega) (by omega) o1')
  refine ab_cO' (ci := ci) (if_pos rfl) h12 ?_
  have hin : ∀ w ∈ u_ws C T N, w ∈ lw_tbl := fun w hw => (List.mem_filter.mp (ab_i0 _ (List.mem_of_getElem? hcl) w hw)).1
  have hpar : ∀ k, k < N → parseFieldDescriptor (T k).2.2.1 = some ((parseFieldDescriptor (T k).2.2.1).getD .int) := by
    intro k hk
    have h1 := hall k hk
    cases hp : parseFieldDescriptor (T k).2.2.1 with
    | none => rw [hp] at h1; unfold ab_okT at h1; split at h1 <;> simp_all
    | some ty => rfl
  rw [hnF]
  refine (u_born (fun k => (parseFieldDescriptor (T k).2.2.1).getD .int) hts hin hKn hkC e1 hpar).to (fun j hj => ?_)
  have h1 := hall j hj
  have hI0 : mI (mNew M ci 0 N) (mZ M) j = 0 := congrFun (if_pos rfl : mI (mNew M ci 0 N) (mZ M) = fun _ => 0) j
  have hR0 : mR (mNew M ci 0 N) (mZ M) j = none := congrFun (if_pos rfl : mR (mNew M ci 0 N) (mZ M) = fun _ => none) j
  have h2 := hpar j hj
  rw [h2] at h1
  rcases okT_lt h1 with e | e | e
  · rw [e] at h1
    have h3 := okT_0 h1
    rw [Option.some.injEq] at h3
    rw [h3, e]
    show _ = cv base (Value.int (mI (mNew M ci 0 N) (mZ M) j))
    rw [hI0]
    rfl
  · rw [e] at h1
    have h3 := okT_1 h1
    rw [Option.some.injEq] at h3
    rw [h3, e]
    show _ = cv base (Value.int (mI (mNew M ci 0 N) (mZ M) j))
    rw [hI0]
    rfl
  · rw [e] at h1
    show _ = cv base (fvl (mNew M ci 0 N) (mZ M) j (ab_ft ci j))
    rw [e]
    show _ = cv base (va_rf (mR (mNew M ci 0 N) (mZ M) j))
    rw [hR0]
    rcases okT_2 h1 with ⟨n, h3⟩ | ⟨n, h3⟩
    · rw [Option.some.injEq] at h3
      rw [h3]
      rfl
    · rw [Option.some.injEq] at h3
      rw [h3]
      rfl
set_option maxHeartbeats 1000000 in
theorem law_ctor (hC : lwC p s m c b D dA L xs) {idx y a d1 : Nat} {rest : List Value} {M1 : ab_M} (w1 : Cond.methodLink "ParrotTontineLaw" idx (ab_yN y) ∈ ab_W) (w2 : Cond.instanceMethod (ab_yN y) ∈ ab_W) (w3 : Cond.initialized (ab_yN y).cls ∈ ab_W) (hin : (ab_yN y).name = "<init>") (hpar : (parseMethodDescriptor (ab_yN y).desc).map (fun d => d.parameters.length) = some 0) (hM : ab_Met l D dA base d1 y [.ref a] M none M1) (hd1 : d1 ≤ 20) (hdg : decode code pc = .ok (.invokespecial idx, 3)) (hWd : ab_Wd D dA base M H) (hF : ab_Fr base s.heap H locs) (hsz : lsA.size = 4) (hrest : (rest.map fun v => v.category).sum ≤ 8) (hc : cells + (mZ M1 - mZ M) ≤ 600000) (hsl : slots + (mS M1 - mS M) ≤ 7302250)
    (k : ∀ H1 locs1, ab_Wd D dA base M1 H1 → ab_Fr base s.heap H1 locs1 → W p l e room_1 s m #[Value.ref b] below meth c H1 locs1 (cells + (mZ M1 - mZ M)) (slots + (mS M1 - mS M)) Q (F0 m (pc + 3) lsA rest)) : W p l e room_1 s m #[Value.ref b] below meth c H locs cells slots Q (F0 m pc lsA (.ref (base + a) :: rest)) := by
  obtain ⟨hx, hb, hml, hown, hts, hX, hbl, hK, hL⟩ := hC
  have hW := ab_W_hts hts
  obtain ⟨hcode, hyo, -, hyh, hyi, hyl⟩ := ab_facts y
  have hret : ab_ret y = none := ab_init_none y (by rw [← hyi]; exact hin)
  have hM' : Met l (ab_yN y) (Cond.code (ab_yN y) (ab_by y) (ab_ml y) none :: ab_W) (ab_rm d1 (mZ M1 - mZ M) (mS M1 - mS M)) (ab_Pre D dA base M [.ref a]) (ab_Post D dA base M1 none) (mZ M1 - mZ M) (mS M1 - mS M) (ab_Fre base) := by
    have h9 : ab_Met l D dA base d1 y [.ref a] M none M1 := hM
    unfold ab_Met ab_wsM at h9
    rw [hret] at h9
    exact h9
  refine ab_goon (r := none) (M1 := M1) (base := base) (va_runI (b := base + a) (As := []) (rest := rest) (n := 0) ⟨hx, hb, hml, hown, hts⟩ hM' (cwI (ws' := ab_W) 0 hts (lw_good ?_) rfl rfl rfl (hW _ w3) (hW _ w1) (hW _ w2) hin ⟨hyh.1, hyh.2, hpar⟩ ⟨by show d1 + 1 ≤ 2048; omega, by show 8 + (ab_ml y + 11) + 60 * d1 ≤ 84000; omega⟩) ⟨ab_blind, fun U hU hWm => ⟨rfl, by rw [hU]; exact hWd, hK.warm hWm⟩⟩ rfl rfl hsz rfl (lv_room hrest) hdg ⟨hc, hsl⟩) hF k
  intro w hw
  exact ab_goodW (y := y) w (by unfold ab_wsM; rw [hret]; exact hw)
end STA
theorem lw_known {b : Nat} {s : State} (hts : ∀ w ∈ lw_tbl, w.before #[Value.ref b] s = true) : ∃ (D : va_G) (dA : Nat → ClassId), ab_K D dA s := by
  have hW := ab_W_hts hts
  have hinst : (ab_cl.all fun q => decide (Cond.instantiable q.1 q.2.2 ∈ lw_tbl)) = true := by decide +kernel
  have hk : ∀ ci : Nat, ∃ (cC : ClassId) (iS : Nat → Nat), ∀ q, ab_cl[ci]? = some q → u_Kn s q.1 q.2.1 q.2.2 cC iS := by
    intro ci
    cases hq : ab_cl[ci]? with
    | none => exact ⟨0, fun _ => 0, fun q h => by cases h⟩
    | some q =>
      have h1 := List.all_eq_true.mp hinst q (List.mem_of_getElem? hq)
      obtain ⟨cC, iS, h2⟩ := u_known (C := q.1) (T := q.2.1) (N := q.2.2) (n := q.2.2) hts (fun w hw => (List.mem_filter.mp (ab_i0 q (List.mem_of_getElem? hq) w hw)).1) (hts _ (by simpa using h1))
      exact ⟨cC, iS, fun q' h => by cases h; exact h2⟩
  have harr : ∀ ty : FieldType, Cond.arrayClass ty ∈ lw_tbl → ∃ c : ClassId, ArrOfT s c ty ∧ s.vm.findClass ("[" ++ ty.toString) = some c := by
    intro ty hw
    obtain ⟨c, k, comp, h1, h2, h3⟩ := Cond.arrayClass_spec (hts _ hw)
    exact ⟨c, fun n z => ⟨fun k h => (by cases h), k, h2, comp, h3⟩, h1⟩
  obtain ⟨c20, a20, n20⟩ := harr .int (List.mem_of_getElem? (i := 85) (by decide +kernel))
  obtain ⟨c21, a21, n21⟩ := harr .long (List.mem_of_getElem? (i := 287) (by decide +kernel))
  obtain ⟨c22, a22, n22⟩ := harr .boolean (List.mem_of_getElem? (i := 928) (by decide +kernel))
  have hao : va_AO "ParrotTontine$State" s := va_AO.of (hts _ (List.mem_of_getElem? (i := 195) (by decide +kernel)))
  obtain ⟨comp, c23, k23, g1, -, g2, g3, g4⟩ := Cond.arrayOver_spec hao
  refine ⟨(fun ci => Classical.choose (hk ci), fun ci => Classical.choose (Classical.choose_spec (hk ci))), fun k => if k = 20 then c20 else if k = 21 then c21 else if k = 22 then c22 else c23, ⟨fun ci q hq => Classical.choose_spec (Classical.choose_spec (hk ci)) q hq, ?_⟩, ?_, hao⟩
  · intro k q hq
    match k, hq with
    | 0, hq => cases hq; exact ⟨a20, n20⟩
    | 1, hq => cases hq; exact ⟨a21, n21⟩
    | 2, hq => cases hq; exact ⟨a22, n22⟩
    | 3, hq => cases hq; exact ⟨fun n z => ⟨fun k h => (by cases h), k23, g2, comp, g3⟩, k23, comp, g2, g3, g1, g4⟩
    | k + 4, hq => simp at hq
  · intro w hw hn
    have h1 := hts w hw
    cases w <;> first | exact va_Nw.of rfl h1 | (simp [ab_nest] at hn)
def lwInit (Rl : ab_M → Prop) : Prop := EvD 20 72 [.ref 0] (mNew mE 10 0 12) (fun r M1 => r = none ∧ mZ M1 = 102 ∧ mS M1 ≤ 100000 ∧ EvD 20 116 [.ref 102] (mNew M1 11 0 35) (fun r2 M2 => r2 = none ∧ mOk M2 ∧ Rl (mNorm M2)))
set_option maxHeartbeats 2000000 in
theorem start_open {Rl : ab_M → Prop} (hRl : ∀ M, Rl M → ∃ b, Sh b M) (hAll : lwAll Rl) (hI : lwInit Rl) {p : Program} {e : Env} {s : State} {m : MethodId} {below : List Frame} {meth : Method} {c : Code} (l : Launch) (hflags : l.flags = flags0) {b L : Nat} {xs : Nat → Int32} (hL : L ≤ 320) (C0 : lw_At p s m meth c b L xs) : W p l e room_1 s m #[Value.ref b] below meth c s.heap [] 0 0 (lw_Z below #[Value.ref b] s) (entryFrame m ([Value.ref b] : List Value).toArray 4) := by
  obtain ⟨hx, hb, hr, hml, hown, hts, hX, hbl, hlocks, hgv⟩ := id C0
  obtain ⟨D, dA, hK⟩ := lw_known hts
  have hC : lwC p s m c b D dA L xs := ⟨hx, hb, hml, hown, hts, hX, hbl, hK, hL⟩
  obtain ⟨f1, r1, M1, hx1, rfl, hz1, hs1, f2, r2, M2, hx2, rfl, hok, hR2⟩ := hI
  have hWd0 : ab_Wd D dA s.heap.size mE s.heap := ⟨rfl, fun a h => absurd h (Nat.not_lt_zero a), fun a _ => rfl⟩
  have hF0 : ab_Fr s.heap.size s.heap s.heap [] := ⟨Nat.le_refl _, fun q _ => rfl, fun q h => by cases h⟩
  have g1 := xm_grow _ _ _ _ _ _ _ hx1
  have g2 := xm_grow _ _ _ _ _ _ _ hx2
  obtain ⟨d1, hd1, hm1⟩ := ab_sound l D dA s.heap.size 20 f1 _ _ _ _ M1 hx1
  obtain ⟨d2, hd2, hm2⟩ := ab_sound l D dA s.heap.size 20 f2 _ _ _ _ M2 hx2
  have hl := lv_entry ([.ref b]) (n := 4) (Nat.le_of_ble_eq_true rfl)
  rw [lg_entry_eq]
  generalize (lg_sl ([.ref b]) ++ List.replicate (4 - (lg_sl ([.ref b])).length) Slot.unset).toArray = ls at hl ⊢
  have hl : lv_has ls 4 [(0, .ref b)] := hl
  have z0 : mZ (mNew mE 10 0 12) = 1 := rfl
  have s0 : mS (mNew mE 10 0 12) = 12 := rfl
  have z1 : mZ (mNew M1 11 0 35) = 103 := by show mZ M1 + 1 = 103; omega
  have s1 : mS (mNew M1 11 0 35) = mS M1 + 35 := rfl
  have z2 := hok.1
  have s2 := hok.2.1
  refine law_new (ci := 10) (T := TX10) (N := 12) hC rfl (ab_inW_mem (i := 55) (by decide +kernel)) (ab_inW_mem (i := 56) (by decide +kernel)) (ab_inW_mem (i := 40) (by decide +kernel)) dl_0 hWd0 hF0 (Nat.le_refl _) (by decide) (by decide) (fun H1 hWd1 hF1 => ?_)
  refine lv_dup hx hb dl_3 rfl ?_
  refine law_ctor (a := 0) (rest := [.ref (s.heap.size + 0)]) hC (idx := 9) (y := 72) (ab_inW_mem (i := 57) (by decide +kernel)) (ab_inW_mem (i := 58) (by decide +kernel)) (ab_inW_mem (i := 40) (by decide +kernel)) (by decide +kernel) (by decide +kernel) hm1 hd1 dl_4 hWd1 hF1 hl.1 (Nat.le_of_ble_eq_true rfl) (by omega) (by omega) (fun H2 locs2 hWd2 hF2 => ?_)
  refine lv_astore_n (lv' := [(1, .ref (s.heap.size + 0)), (0, .ref b)]) hx hb dl_7 rfl hl (by decide) rfl (fun ls hl => ?_)
  refine law_new (ci := 11) (T := TX11) (N := 35) hC rfl (ab_inW_mem (i := 812) (by decide +kernel)) (ab_inW_mem (i := 813) (by decide +kernel)) (ab_inW_mem (i := 51) (by decide +kernel)) dl_8 hWd2 hF2 (by have := hWd2.1; omega) (by omega) (by omega) (fun H3 hWd3 hF3 => ?_)
  rw [hz1]
  refine lv_dup hx hb dl_11 rfl ?_
  refine law_ctor (a := 102) (rest := [.ref (s.heap.size + 102)]) hC (idx := 12) (y := 116) (ab_inW_mem (i := 814) (by decide +kernel)) (ab_inW_mem (i := 815) (by decide +kernel)) (ab_inW_mem (i := 51) (by decide +kernel)) (by decide +kernel) (by decide +kernel) hm2 hd2 dl_12 hWd3 hF3 hl.1 (Nat.le_of_ble_eq_true rfl) (by omega) (by omega) (fun H4 locs4 hWd4 hF4 => ?_)
  refine lv_astore_n (lv' := [(2, .ref (s.heap.size + 102)), (1, .ref (s.heap.size + 0)), (0, .ref b)]) hx hb dl_15 rfl hl (by decide) rfl (fun ls hl => ?_)
  refine lv_iconst (v := 0) hx hb dl_16 (by decide) ?_
  refine lv_istore_n (lv' := [(3, .int 0), (2, .ref (s.heap.size + 102)), (1, .ref (s.heap.size + 0)), (0, .ref b)]) hx hb dl_17 rfl hl (by decide) rfl (fun ls hl => ?_)
  exact law_loop hC hr hlocks rfl hRl hAll (by omega) (by omega) (L + 1) 0 (Nat.zero_le L) (by omega) (mNorm M2) H4 locs4 ls hR2 (hWd4.norm hok) hF4 hl
