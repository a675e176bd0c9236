def R_law : String := "ParrotTontineLaw"
def lw_P (b : Addr) (xs : List Int32) (args : Array Value) (s : State) : Prop := args = #[.ref b] ∧ s.IntsAt b xs ∧ xs.length ≤ 320 ∧ (Jvm.Cond.and given_1 narrow_1).before args s = true
def lw_Q (_ : Array Value) (s : State) (o : Outcome) (t : State) : Prop := o = .returned (some (.int 1)) ∧ Framed s o t [] 600000 7302250
def lw_Z (below : List Frame) (a : Array Value) (s : State) : State → Prop := fun t => ∃ o, t.status = .running ∧ Ended t below o ∧ lw_Q a s o t
/-- the law's own end, with 1 on the stack, nothing written that was there before, its room as the claim has it -/
theorem lw_ret {p : Program} {l : Launch} {e : Env} {s : State} {m : MethodId} {below : List Frame} {meth : Method} {c : Code} {b : Nat} (hx : p.tables.exec = Jvm.exec) (hb : c.code = code) (hr : meth.sig.returnType = ret) (hlocks : meth.locks = false) {pc : Nat} {H : Heap} {ls : Array Slot} (hdg : decode code pc = .ok (.ireturn, 1)) : W p l e room_1 s m #[Value.ref b] below meth c H [] 600000 7302250 (lw_Z below #[Value.ref b] s) (F0 m pc ls [.int 1]) := by
  intro T hT X
  obtain ⟨fs, hret, hrun, hended, hW, hframe⟩ := X.leave (v := some (.int 1)) (hlocks := hlocks) (fun h => by rw [hr] at h; cases h)
  have hmeth' : T.vm.method? m = some meth := X.method'
  refine ⟨T.setFrames fs, ?_, .returned (some (.int 1)), hrun, hended, rfl, ⟨_, rfl⟩, hW, hframe⟩
  jvm_step X.here [X.here.top, hx, hb, hdg, hmeth', hr, ret, narrow_b1]
  (try refine ⟨rfl, ?_⟩); (try refine ⟨rfl, ?_⟩)
  first | (intro acts; rw [hret _ acts rfl rfl rfl]) | rw [hret _ _ rfl rfl rfl]
  exact Steps.refl _
/-- what holds at the law's entry: the machine, the code, the tables' words (any of lw_tbl by 'hts w (by decide +kernel)'), the script of L ints xs at the cell b, what the Statement gives of the start (any of its parts by flat_of_before) -/
def lw_At (p : Program) (s : State) (m : MethodId) (meth : Method) (c : Code) (b L : Nat) (xs : Nat → Int32) : Prop :=
  p.tables.exec = Jvm.exec ∧ c.code = code ∧ meth.sig.returnType = ret ∧ c.maxLocals = 4 ∧ s.vm.findClass R_law = some m.cls ∧ (∀ w ∈ lw_tbl, w.before #[Value.ref b] s = true) ∧ va_X b L xs s s.heap ∧ b < s.heap.size ∧ meth.locks = false ∧ (Jvm.Cond.and given_1 narrow_1).before #[Value.ref b] s = true

/-! THE LAW OVER THE ABSTRACT MACHINE -/
def lwY : List (Nat × Nat × Nat × Nat × Nat × Nat × Nat) := [(13, 73, 1, 355, 356, 357, 40), (18, 74, 0, 369, 370, 371, 40), (23, 75, 0, 453, 454, 455, 40), (27, 76, 1, 457, 458, 459, 40), (31, 77, 2, 477, 478, 479, 40), (36, 78, 2, 501, 502, 503, 40), (40, 79, 1, 531, 532, 533, 40), (44, 80, 1, 568, 569, 570, 40), (48, 81, 2, 572, 573, 574, 40), (52, 82, 2, 576, 577, 578, 40), (56, 83, 3, 580, 581, 582, 40), (61, 84, 1, 584, 585, 586, 40), (65, 85, 0, 600, 601, 602, 40), (69, 86, 2, 608, 609, 610, 40), (73, 87, 3, 644, 645, 646, 40), (77, 88, 1, 656, 657, 658, 40), (81, 89, 1, 665, 666, 667, 40), (85, 90, 2, 673, 674, 675, 40), (89, 91, 2, 680, 681, 682, 40), (93, 92, 4, 700, 701, 702, 40), (98, 93, 2, 738, 739, 740, 40), (102, 94, 3, 746, 747, 748, 40), (106, 95, 2, 755, 756, 757, 40), (110, 96, 0, 768, 769, 770, 40), (114, 97, 0, 772, 773, 774, 40), (118, 98, 1, 780, 781, 782, 40), (122, 99, 1, 784, 785, 786, 40), (126, 100, 1, 798, 799, 800, 40), (17, 124, 1, 929, 930, 931, 51), (22, 134, 0, 938, 939, 940, 51), (26, 135, 0, 978, 979, 980, 51), (30, 137, 1, 982, 983, 984, 51), (35, 139, 2, 990, 991, 992, 51), (39, 142, 2, 1010, 1011, 1012, 51), (43, 147, 1, 1029, 1030, 1031, 51), (47, 148, 1, 1050, 1051, 1052, 51), (51, 150, 2, 1054, 1055, 1056, 51), (55, 151, 2, 1062, 1063, 1064, 51), (60, 152, 3, 1066, 1067, 1068, 51), (64, 154, 1, 1070, 1071, 1072, 51), (68, 155, 0, 1082, 1083, 1084, 51), (72, 159, 2, 1086, 1087, 1088, 51), (76, 161, 3, 1104, 1105, 1106, 51), (80, 162, 1, 1112, 1113, 1114, 51), (84, 163, 1, 1116, 1117, 1118, 51), (88, 164, 2, 1120, 1121, 1122, 51), (92, 166, 2, 1124, 1125, 1126, 51), (97, 170, 4, 1132, 1133, 1134, 51), (101, 171, 2, 1148, 1149, 1150, 51), (105, 173, 3, 1152, 1153, 1154, 51), (109, 174, 2, 1161, 1162, 1163, 51), (113, 175, 0, 1165, 1166, 1167, 51), (117, 176, 0, 1169, 1170, 1171, 51), (121, 177, 1, 1173, 1174, 1175, 51), (125, 178, 1, 1177, 1178, 1179, 51), (129, 179, 1, 1181, 1182, 1183, 51)]
def okLY (f : Nat × Nat × Nat × Nat × Nat × Nat × Nat) : Bool := match f with
  | (i, y, n, pl, p1, p2, p3) => ab_inW pl (.methodLink "ParrotTontineLaw" i (ab_yN y)) && (ab_inW p1 (.instanceMethod (ab_yN y)) && (ab_inW p2 (.selects (ab_yN y).cls (ab_yN y) (ab_yN y)) && (ab_inW p3 (.initialized (ab_yN y).cls) && decide ((parseMethodDescriptor (ab_yN y).desc).map (fun d => d.parameters.length) = some n))))
set_option maxRecDepth 100000 in
theorem lwY_ok : lwY.all okLY = true := by decide +kernel
theorem lwY_in {i y n : Nat} (h : (lwY.find? (fun f => f.1 == i)).map (fun f => (f.2.1, f.2.2.1)) = some (y, n)) : ∃ pl p1 p2 p3, okLY (i, y, n, pl, p1, p2, p3) = true := by
  cases hf : lwY.find? (fun f => f.1 == i) with
  | none => rw [hf] at h; cases h
  | some r =>
    rw [hf] at h
    have hp := List.find?_some hf
    have h1 := List.all_eq_true.mp lwY_ok r (List.mem_of_find?_eq_some hf)
    obtain ⟨i', y', n', pl, p1, p2, p3⟩ := r
    simp only [beq_iff_eq] at hp
    simp only [Option.map_some, Option.some.injEq, Prod.mk.injEq] at h
    obtain ⟨e1, e2⟩ := h
    subst hp; subst e1; subst e2
    exact ⟨pl, p1, p2, p3, h1⟩
def lwStep (Rl : ab_M → Prop) (x m : Nat) (as : List Int32) (M : ab_M) : Prop := EvD 20 x (.ref 0 :: as.map .int) M (fun r M1 => ∃ (v : Int32) (b1 : Bool), r = some (.int v) ∧ Sh b1 M1 ∧ EvD 20 m (.ref 102 :: as.map .int) M1 (fun r2 M2 => r2 = some (.int v) ∧ Rl M2))
theorem ab_W_hts {args : Array Value} {s : State} (hts : ∀ w ∈ lw_tbl, w.before args s = true) : ∀ w ∈ ab_W, w.before args s = true := fun w hw => hts w (List.mem_filter.mp hw).1
theorem lw_good {ws : List Cond} (h : ∀ w ∈ ws, w ∈ ab_W) : GoodIn lw_tbl ws := fun w hw => ⟨(List.mem_filter.mp (h w hw)).1, good_of_word (List.mem_filter.mp (h w hw)).2⟩
theorem ab_cl_at {y : Nat} (h : ab_o y < 12) : ∃ T N, ab_cl[ab_o y]? = some ((ab_yN y).cls, T, N) := by
  rw [← (ab_facts y).2.1]
  generalize ab_o y = z at h
  match z, h with
  | 0, _ => exact ⟨_, _, rfl⟩
  | 1, _ => exact ⟨_, _, rfl⟩
  | 2, _ => exact ⟨_, _, rfl⟩
  | 3, _ => exact ⟨_, _, rfl⟩
  | 4, _ => exact ⟨_, _, rfl⟩
  | 5, _ => exact ⟨_, _, rfl⟩
  | 6, _ => exact ⟨_, _, rfl⟩
  | 7, _ => exact ⟨_, _, rfl⟩
  | 8, _ => exact ⟨_, _, rfl⟩
  | 9, _ => exact ⟨_, _, rfl⟩
  | 10, _ => exact ⟨_, _, rfl⟩
  | 11, _ => exact ⟨_, _, rfl⟩
section LAW
variable {p : Program} {l : Launch} {e : Env} {s : State} {m : MethodId} {b : Nat} {below : List Frame} {meth : Method} {c : Code} {H : Heap} {locs : List Loc} {cells slots : Nat} {Q : State → Prop}
variable {D : va_G} {dA : Nat → ClassId} {base pc : Nat} {M : ab_M} {lsA : Array Slot} {L : Nat} {xs : Nat → Int32}
def lwC (p : Program) (s : State) (m : MethodId) (c : Code) (b : Nat) (D : va_G) (dA : Nat → ClassId) (L : Nat) (xs : Nat → Int32) : Prop := p.tables.exec = Jvm.exec ∧ c.code = code ∧ c.maxLocals = 4 ∧ s.vm.findClass "ParrotTontineLaw" = some m.cls ∧ (∀ w ∈ lw_tbl, w.before #[Value.ref b] s = true) ∧ va_X b L xs s s.heap ∧ b < s.heap.size ∧ ab_K D dA s ∧ L ≤ 320
set_option maxHeartbeats 1000000 in
theorem law_call (hC : lwC p s m c b D dA L xs) {idx y n a d1 : Nat} {as rest : List Value} {r : Option Value} {M1 : ab_M} (hY : (lwY.find? (fun f => f.1 == idx)).map (fun f => (f.2.1, f.2.2.1)) = some (y, n)) (hM : ab_Met l D dA base d1 y (.ref a :: as) M r M1) (hd1 : d1 ≤ 20) (hk : mK M a = ab_o y) (h12 : ab_o y < 12) (hn : as.length = n) (hdg : decode code pc = .ok (.invokevirtual idx, 3)) (hWd : ab_Wd D dA base M H) (hF : ab_Fr base s.heap H locs) (hsz : lsA.size = 4) (hrest : (rest.map fun v => v.category).sum ≤ 8) (hz : mZ M1 = mZ M) (hs : mS M1 = mS M) (hc : cells ≤ 600000) (hsl : slots ≤ 7302250)
    (k : ∀ H1 locs1, ab_Wd D dA base M1 H1 → ab_Fr base s.heap H1 locs1 → W p l e room_1 s m #[Value.ref b] below meth c H1 locs1 cells slots Q (F0 m (pc + 3) lsA ((r.map (cv base)).toList ++ rest))) : W p l e room_1 s m #[Value.ref b] below meth c H locs cells slots Q (F0 m pc lsA ((as.map (cv base)).reverse ++ .ref (base + a) :: rest)) := by
  obtain ⟨hx, hb, hml, hown, hts, hX, hbl, hK, hL⟩ := hC
  obtain ⟨pl, p1, p2, p3, ho⟩ := lwY_in hY
  simp only [okLY, Bool.and_eq_true, decide_eq_true_eq] at ho
  obtain ⟨o1, o2, o3, o4, o5⟩ := ho
  obtain ⟨hcode, hyo, -, hyh, hyi, hyl⟩ := ab_facts y
  have hM' : Met l (ab_yN y) (ab_wsM y) (ab_rm d1 0 0) (ab_Pre D dA base M (.ref a :: as)) (ab_Post D dA base M1 r) 0 0 (ab_Fre base) := by
    have h9 := hM
    unfold ab_Met at h9
    rw [hz, hs, Nat.sub_self, Nat.sub_self] at h9
    exact h9
  obtain ⟨T, N, hcl⟩ := ab_cl_at h12
  obtain ⟨cellB, q1, q2, q3, -⟩ := ab_cO hWd hk h12
  have hcls := (hK.1.1 _ _ hcl).2.1
  refine ab_goon (r := r) (M1 := M1) (base := base) (va_runV (C := (ab_yN y).cls) (b := base + a) (As := as.map (cv base)) (n := n) ⟨hx, hb, hml, hown, hts⟩ hM' (cwV (ws' := ab_W) n hts (lw_good ?_) rfl rfl rfl ⟨rfl, hyh.1, hyh.2, o5⟩ ⟨by show d1 + 1 ≤ 2048; omega, by show 8 + (ab_ml y + 11) + 60 * d1 ≤ 84000; omega⟩) ⟨ab_blind, ⟨cellB, q1, by rw [q3]; rfl, by rw [q2]; exact hcls⟩, fun U hU hWm => ⟨rfl, by rw [hU]; exact hWd, hK.warm hWm⟩⟩ rfl (by rw [List.length_map]; exact hn) hsz rfl (lv_room hrest) hdg ⟨hc, hsl⟩) hF k
  intro w hw
  unfold wsV at hw
  rcases List.mem_append.mp hw with h | h
  · simp only [List.mem_cons, List.not_mem_nil, or_false] at h
    rcases h with rfl | rfl | rfl | rfl
    · exact ab_inW_mem o1
    · exact ab_inW_mem o2
    · exact ab_inW_mem o3
    · exact ab_inW_mem o4
  · exact ab_goodW w h
theorem law_arg (hC : lwC p s m c b D dA L xs) (hb0 : base = s.heap.size) {i j : Nat} {x1 x2 : Nat} {rest : List Value} (hl : lv_has lsA 4 [(3, .int (nI i)), (2, .ref x2), (1, .ref x1), (0, .ref b)]) (hij : i + j < L) (hF : ab_Fr base s.heap H locs)
    (hd0 : decode code pc = .ok (.aload_n 0, 1)) (hd1 : decode code (pc + 1) = .ok (.iload_n 3, 1)) {n : Int} (hd2 : decode code (pc + 2) = .ok (.iconst n, 1)) (hn : Int32.ofInt n = nI j) (hd3 : decode code (pc + 3) = .ok (.iadd, 1)) (hd4 : decode code (pc + 4) = .ok (.iaload, 1))
    (k : W p l e room_1 s m #[Value.ref b] below meth c H locs cells slots Q (F0 m (pc + 5) lsA (.int (xs (i + j)) :: rest))) : W p l e room_1 s m #[Value.ref b] below meth c H locs cells slots Q (F0 m pc lsA rest) := by
  obtain ⟨hx, hb, hml, hown, hts, hX, hbl, hK, hL⟩ := hC
  have hlt : i + j < 2 ^ 31 := by omega
  refine lv_aload_n hx hb hd0 rfl (lv_at hl 3 rfl) ?_
  refine lv_iload_n hx hb hd1 rfl (lv_at hl 0 rfl) ?_
  refine lv_iconst hx hb hd2 hn ?_
  refine lv_iadd hx hb hd3 ?_
  rw [nI_add]
  refine va_sld (A := fun q => base ≤ q) (H0 := s.heap) hx hb hX hbl (by rw [hb0]; exact Nat.not_le.mpr hbl) ⟨hF.1, fun q h1 h2 => hF.2.1 q (Nat.not_le.mp h2), hF.2.2⟩ (vp_in_nI hij (by omega)) hd4 ?_
  rw [nI_clamp hlt]
  exact k

set_option maxHeartbeats 1000000 in
theorem law_case0 (hC : lwC p s m c b D dA L xs) (hb0 : base = s.heap.size) {i : Nat} (hl : lv_has lsA 4 [(3, .int (nI i)), (2, .ref (base + 102)), (1, .ref (base + 0)), (0, .ref b)]) (hi : i + 5 ≤ L) {Rl : ab_M → Prop} (hRl : ∀ M, Rl M → ∃ b, Sh b M) (hM : Rl M) (hP : lwStep Rl 73 124 [xs (i + 1)] M) (hWd : ab_Wd D dA base M H) (hF : ab_Fr base s.heap H locs) (hc : cells ≤ 600000) (hsl : slots ≤ 7302250)
    (k : ∀ M2 H2 locs2, Rl M2 → ab_Wd D dA base M2 H2 → ab_Fr base s.heap H2 locs2 → W p l e room_1 s m #[Value.ref b] below meth c H2 locs2 cells slots Q (F0 m 934 lsA [])) : W p l e room_1 s m #[Value.ref b] below meth c H locs cells slots Q (F0 m 160 lsA []) := by
  have hC' := hC
  obtain ⟨hx, hb, hml, hown, hts, hX, hbl, hK, hL⟩ := hC
  obtain ⟨b0, hS0⟩ := hRl M hM
  obtain ⟨f1, r1, M1, hx1, v, b1, rfl, hS1, f2, r2, M2, hx2, rfl, hR2⟩ := hP
  obtain ⟨b2, hS2⟩ := hRl M2 hR2
  obtain ⟨d1, hd1, hm1⟩ := ab_sound l D dA base 20 f1 73 _ M _ M1 hx1
  obtain ⟨d2, hd2, hm2⟩ := ab_sound l D dA base 20 f2 124 _ M1 _ M2 hx2
  refine lv_aload_n hx hb dl_160 rfl (lv_at hl 2 rfl) ?_
  refine law_arg hC' hb0 hl (j := 1) (by omega) hF dl_161 dl_162 dl_163 rfl dl_164 dl_165 ?_
  refine law_call (as := [.int (xs (i + 1))]) (rest := []) hC' (idx := 13) (n := 1) (by decide +kernel) hm1 hd1 (by rw [hS0.1]; decide +kernel) (by decide +kernel) rfl dl_166 hWd hF hl.1 (by decide) (by rw [hS1.2.2.2.1, hS0.2.2.2.1]) (by rw [hS1.2.2.2.2, hS0.2.2.2.2]) hc hsl (fun H1 locs1 hWd1 hF1 => ?_)
  show W p l e room_1 s m #[Value.ref b] below meth c H1 locs1 cells slots Q (F0 m 169 lsA [.int v])
  refine lv_aload_n hx hb dl_169 rfl (lv_at hl 1 rfl) ?_
  refine law_arg hC' hb0 hl (j := 1) (by omega) hF1 dl_170 dl_171 dl_172 rfl dl_173 dl_174 ?_
  refine law_call (as := [.int (xs (i + 1))]) (rest := [.int v]) hC' (idx := 17) (n := 1) (by decide +kernel) hm2 hd2 (by rw [hS1.1]; decide +kernel) (by decide +kernel) rfl dl_175 hWd1 hF1 hl.1 (Nat.le_of_ble_eq_true rfl) (by rw [hS2.2.2.2.1, hS1.2.2.2.1]) (by rw [hS2.2.2.2.2, hS1.2.2.2.2]) hc hsl (fun H2 locs2 hWd2 hF2 => ?_)
  show W p l e room_1 s m #[Value.ref b] below meth c H2 locs2 cells slots Q (F0 m 178 lsA [.int v, .int v])
  exact lv_icmp_eq (tgt := 934) hx hb dl_178 (by decide) (fun _ => k M2 H2 locs2 hR2 hWd2 hF2) (fun c0 => absurd rfl c0)

set_option maxHeartbeats 1000000 in
theorem law_case1 (hC : lwC p s m c b D dA L xs) (hb0 : base = s.heap.size) {i : Nat} (hl : lv_has lsA 4 [(3, .int (nI i)), (2, .ref (base + 102)), (1, .ref (base + 0)), (0, .ref b)]) (hi : i + 5 ≤ L) {Rl : ab_M → Prop} (hRl : ∀ M, Rl M → ∃ b, Sh b M) (hM : Rl M) (hP : lwStep Rl 74 134 [] M) (hWd : ab_Wd D dA base M H) (hF : ab_Fr base s.heap H locs) (hc : cells ≤ 600000) (hsl : slots ≤ 7302250)
    (k : ∀ M2 H2 locs2, Rl M2 → ab_Wd D dA base M2 H2 → ab_Fr base s.heap H2 locs2 → W p l e room_1 s m #[Value.ref b] below meth c H2 locs2 cells slots Q (F0 m 934 lsA [])) : W p l e room_1 s m #[Value.ref b] below meth c H locs cells slots Q (F0 m 183 lsA []) := by
  have hC' := hC
  obtain ⟨hx, hb, hml, hown, hts, hX, hbl, hK, hL⟩ := hC
  obtain ⟨b0, hS0⟩ := hRl M hM
  obtain ⟨f1, r1, M1, hx1, v, b1, rfl, hS1, f2, r2, M2, hx2, rfl, hR2⟩ := hP
  obtain ⟨b2, hS2⟩ := hRl M2 hR2
  obtain ⟨d1, hd1, hm1⟩ := ab_sound l D dA base 20 f1 74 _ M _ M1 hx1
  obtain ⟨d2, hd2, hm2⟩ := ab_sound l D dA base 20 f2 134 _ M1 _ M2 hx2
  refine lv_aload_n hx hb dl_183 rfl (lv_at hl 2 rfl) ?_
  refine law_call (as := []) (rest := []) hC' (idx := 18) (n := 0) (by decide +kernel) hm1 hd1 (by rw [hS0.1]; decide +kernel) (by decide +kernel) rfl dl_184 hWd hF hl.1 (by decide) (by rw [hS1.2.2.2.1, hS0.2.2.2.1]) (by rw [hS1.2.2.2.2, hS0.2.2.2.2]) hc hsl (fun H1 locs1 hWd1 hF1 => ?_)
  show W p l e room_1 s m #[Value.ref b] below meth c H1 locs1 cells slots Q (F0 m 187 lsA [.int v])
  refine lv_aload_n hx hb dl_187 rfl (lv_at hl 1 rfl) ?_
  refine law_call (as := []) (rest := [.int v]) hC' (idx := 22) (n := 0) (by decide +kernel) hm2 hd2 (by rw [hS1.1]; decide +kernel) (by decide +kernel) rfl dl_188 hWd1 hF1 hl.1 (Nat.le_of_ble_eq_true rfl) (by rw [hS2.2.2.2.1, hS1.2.2.2.1]) (by rw [hS2.2.2.2.2, hS1.2.2.2.2]) hc hsl (fun H2 locs2 hWd2 hF2 => ?_)
  show W p l e room_1 s m #[Value.ref b] below meth c H2 locs2 cells slots Q (F0 m 191 lsA [.int v, .int v])
  exact lv_icmp_eq (tgt := 934) hx hb dl_191 (by decide) (fun _ => k M2 H2 locs2 hR2 hWd2 hF2) (fun c0 => absurd rfl c0)

set_option maxHeartbeats 1000000 in
theorem law_case2 (hC : lwC p s m c b D dA L xs) (hb0 : base = s.heap.size) {i : Nat} (hl : lv_has lsA 4 [(3, .int (nI i)), (2, .ref (base + 102)), (1, .ref (base + 0)), (0, .ref b)]) (hi : i + 5 ≤ L) {Rl : ab_M → Prop} (hRl : ∀ M, Rl M → ∃ b, Sh b M) (hM : Rl M) (hP : lwStep Rl 75 135 [] M) (hWd : ab_Wd D dA base M H) (hF : ab_Fr base s.heap H locs) (hc : cells ≤ 600000) (hsl : slots ≤ 7302250)
    (k : ∀ M2 H2 locs2, Rl M2 → ab_Wd D dA base M2 H2 → ab_Fr base s.heap H2 locs2 → W p l e room_1 s m #[Value.ref b] below meth c H2 locs2 cells slots Q (F0 m 934 lsA [])) : W p l e room_1 s m #[Value.ref b] below meth c H locs cells slots Q (F0 m 196 lsA []) := by
  have hC' := hC
  obtain ⟨hx, hb, hml, hown, hts, hX, hbl, hK, hL⟩ := hC
  obtain ⟨b0, hS0⟩ := hRl M hM
  obtain ⟨f1, r1, M1, hx1, v, b1, rfl, hS1, f2, r2, M2, hx2, rfl, hR2⟩ := hP
  obtain ⟨b2, hS2⟩ := hRl M2 hR2
  obtain ⟨d1, hd1, hm1⟩ := ab_sound l D dA base 20 f1 75 _ M _ M1 hx1
  obtain ⟨d2, hd2, hm2⟩ := ab_sound l D dA base 20 f2 135 _ M1 _ M2 hx2
  refine lv_aload_n hx hb dl_196 rfl (lv_at hl 2 rfl) ?_
  refine law_call (as := []) (rest := []) hC' (idx := 23) (n := 0) (by decide +kernel) hm1 hd1 (by rw [hS0.1]; decide +kernel) (by decide +kernel) rfl dl_197 hWd hF hl.1 (by decide) (by rw [hS1.2.2.2.1, hS0.2.2.2.1]) (by rw [hS1.2.2.2.2, hS0.2.2.2.2]) hc hsl (fun H1 locs1 hWd1 hF1 => ?_)
  show W p l e room_1 s m #[Value.ref b] below meth c H1 locs1 cells slots Q (F0 m 200 lsA [.int v])
  refine lv_aload_n hx hb dl_200 rfl (lv_at hl 1 rfl) ?_
  refine law_call (as := []) (rest := [.int v]) hC' (idx := 26) (n := 0) (by decide +kernel) hm2 hd2 (by rw [hS1.1]; decide +kernel) (by decide +kernel) rfl dl_201 hWd1 hF1 hl.1 (Nat.le_of_ble_eq_true rfl) (by rw [hS2.2.2.2.1, hS1.2.2.2.1]) (by rw [hS2.2.2.2.2, hS1.2.2.2.2]) hc hsl (fun H2 locs2 hWd2 hF2 => ?_)
  show W p l e room_1 s m #[Value.ref b] below meth c H2 locs2 cells slots Q (F0 m 204 lsA [.int v, .int v])
  exact lv_icmp_eq (tgt := 934) hx hb dl_204 (by decide) (fun _ => k M2 H2 locs2 hR2 hWd2 hF2) (fun c0 => absurd rfl c0)

set_option maxHeartbeats 1000000 in
theorem law_case3 (hC : lwC p s m c b D dA L xs) (hb0 : base = s.heap.size) {i : Nat} (hl : lv_has lsA 4 [(3, .int (nI i)), (2, .ref (base + 102)), (1, .ref (base + 0)), (0, .ref b)]) (hi : i + 5 ≤ L) {Rl : ab_M → Prop} (hRl : ∀ M, Rl M → ∃ b, Sh b M) (hM : Rl M) (hP : lwStep Rl 76 137 [xs (i + 1)] M) (hWd : ab_Wd D dA base M H) (hF : ab_Fr base s.heap H locs) (hc : cells ≤ 600000) (hsl : slots ≤ 7302250)
    (k : ∀ M2 H2 locs2, Rl M2 → ab_Wd D dA base M2 H2 → ab_Fr base s.heap H2 locs2 → W p l e room_1 s m #[Value.ref b] below meth c H2 locs2 cells slots Q (F0 m 934 lsA [])) : W p l e room_1 s m #[Value.ref b] below meth c H locs cells slots Q (F0 m 209 lsA []) := by
  have hC' := hC
  obtain ⟨hx, hb, hml, hown, hts, hX, hbl, hK, hL⟩ := hC
  obtain ⟨b0, hS0⟩ := hRl M hM
  obtain ⟨f1, r1, M1, hx1, v, b1, rfl, hS1, f2, r2, M2, hx2, rfl, hR2⟩ := hP
  obtain ⟨b2, hS2⟩ := hRl M2 hR2
  obtain ⟨d1, hd1, hm1⟩ := ab_sound l D dA base 20 f1 76 _ M _ M1 hx1
  obtain ⟨d2, hd2, hm2⟩ := ab_sound l D dA base 20 f2 137 _ M1 _ M2 hx2
  refine lv_aload_n hx hb dl_209 rfl (lv_at hl 2 rfl) ?_
  refine law_arg hC' hb0 hl (j := 1) (by omega) hF dl_210 dl_211 dl_212 rfl dl_213 dl_214 ?_
  refine law_call (as := [.int (xs (i + 1))]) (rest := []) hC' (idx := 27) (n := 1) (by decide +kernel) hm1 hd1 (by rw [hS0.1]; decide +kernel) (by decide +kernel) rfl dl_215 hWd hF hl.1 (by decide) (by rw [hS1.2.2.2.1, hS0.2.2.2.1]) (by rw [hS1.2.2.2.2, hS0.2.2.2.2]) hc hsl (fun H1 locs1 hWd1 hF1 => ?_)
  show W p l e room_1 s m #[Value.ref b] below meth c H1 locs1 cells slots Q (F0 m 218 lsA [.int v])
  refine lv_aload_n hx hb dl_218 rfl (lv_at hl 1 rfl) ?_
  refine law_arg hC' hb0 hl (j := 1) (by omega) hF1 dl_219 dl_220 dl_221 rfl dl_222 dl_223 ?_
  refine law_call (as := [.int (xs (i + 1))]) (rest := [.int v]) hC' (idx := 30) (n := 1) (by decide +kernel) hm2 hd2 (by rw [hS1.1]; decide +kernel) (by decide +kernel) rfl dl_224 hWd1 hF1 hl.1 (Nat.le_of_ble_eq_true rfl) (by rw [hS2.2.2.2.1, hS1.2.2.2.1]) (by rw [hS2.2.2.2.2, hS1.2.2.2.2]) hc hsl (fun H2 locs2 hWd2 hF2 => ?_)
  show W p l e room_1 s m #[Value.ref b] below meth c H2 locs2 cells slots Q (F0 m 227 lsA [.int v, .int v])
  exact lv_icmp_eq (tgt := 934) hx hb dl_227 (by decide) (fun _ => k M2 H2 locs2 hR2 hWd2 hF2) (fun c0 => absurd rfl c0)

set_option maxHeartbeats 1000000 in
theorem law_case4 (hC : lwC p s m c b D dA L xs) (hb0 : base = s.heap.size) {i : Nat} (hl : lv_has lsA 4 [(3, .int (nI i)), (2, .ref (base + 102)), (1, .ref (base + 0)), (0, .ref b)]) (hi : i + 5 ≤ L) {Rl : ab_M → Prop} (hRl : ∀ M, Rl M → ∃ b, Sh b M) (hM : Rl M) (hP : lwStep Rl 77 139 [xs (i + 1), xs (i + 2)] M) (hWd : ab_Wd D dA base M H) (hF : ab_Fr base s.heap H locs) (hc : cells ≤ 600000) (hsl : slots ≤ 7302250)
    (k : ∀ M2 H2 locs2, Rl M2 → ab_Wd D dA base M2 H2 → ab_Fr base s.heap H2 locs2 → W p l e room_1 s m #[Value.ref b] below meth c H2 locs2 cells slots Q (F0 m 934 lsA [])) : W p l e room_1 s m #[Value.ref b] below meth c H locs cells slots Q (F0 m 232 lsA []) := by
  have hC' := hC
  obtain ⟨hx, hb, hml, hown, hts, hX, hbl, hK, hL⟩ := hC
  obtain ⟨b0, hS0⟩ := hRl M hM
  obtain ⟨f1, r1, M1, hx1, v, b1, rfl, hS1, f2, r2, M2, hx2, rfl, hR2⟩ := hP
  obtain ⟨b2, hS2⟩ := hRl M2 hR2
  obtain ⟨d1, hd1, hm1⟩ := ab_sound l D dA base 20 f1 77 _ M _ M1 hx1
  obtain ⟨d2, hd2, hm2⟩ := ab_sound l D dA base 20 f2 139 _ M1 _ M2 hx2
  refine lv_aload_n hx hb dl_232 rfl (lv_at hl 2 rfl) ?_
  refine law_arg hC' hb0 hl (j := 1) (by omega) hF dl_233 dl_234 dl_235 rfl dl_236 dl_237 ?_
  refine law_arg hC' hb0 hl (j := 2) (by omega) hF dl_238 dl_239 dl_240 rfl dl_241 dl_242 ?_
  refine law_call (as := [.int (xs (i + 1)), .int (xs (i + 2))]) (rest := []) hC' (idx := 31) (n := 2) (by decide +kernel) hm1 hd1 (by rw [hS0.1]; decide +kernel) (by decide +kernel) rfl dl_243 hWd hF hl.1 (by decide) (by rw [hS1.2.2.2.1, hS0.2.2.2.1]) (by rw [hS1.2.2.2.2, hS0.2.2.2.2]) hc hsl (fun H1 locs1 hWd1 hF1 => ?_)
  show W p l e room_1 s m #[Value.ref b] below meth c H1 locs1 cells slots Q (F0 m 246 lsA [.int v])
  refine lv_aload_n hx hb dl_246 rfl (lv_at hl 1 rfl) ?_
  refine law_arg hC' hb0 hl (j := 1) (by omega) hF1 dl_247 dl_248 dl_249 rfl dl_250 dl_251 ?_
  refine law_arg hC' hb0 hl (j := 2) (by omega) hF1 dl_252 dl_253 dl_254 rfl dl_255 dl_256 ?_
  refine law_call (as := [.int (xs (i + 1)), .int (xs (i + 2))]) (rest := [.int v]) hC' (idx := 35) (n := 2) (by decide +kernel) hm2 hd2 (by rw [hS1.1]; decide +kernel) (by decide +kernel) rfl dl_257 hWd1 hF1 hl.1 (Nat.le_of_ble_eq_true rfl) (by rw [hS2.2.2.2.1, hS1.2.2.2.1]) (by rw [hS2.2.2.2.2, hS1.2.2.2.2]) hc hsl (fun H2 locs2 hWd2 hF2 => ?_)
  show W p l e room_1 s m #[Value.ref b] below meth c H2 locs2 cells slots Q (F0 m 260 lsA [.int v, .int v])
  exact lv_icmp_eq (tgt := 934) hx hb dl_260 (by decide) (fun _ => k M2 H2 locs2 hR2 hWd2 hF2) (fun c0 => absurd rfl c0)

set_option maxHeartbeats 1000000 in
theorem law_case5 (hC : lwC p s m c b D dA L xs) (hb0 : base = s.heap.size) {i : Nat} (hl : lv_has lsA 4 [(3, .int (nI i)), (2, .ref (base + 102)), (1, .ref (base + 0)), (0, .ref b)]) (hi : i + 5 ≤ L) {Rl : ab_M → Prop} (hRl : ∀ M, Rl M → ∃ b, Sh b M) (hM : Rl M) (hP : lwStep Rl 78 142 [xs (i + 1), xs (i + 2)] M) (hWd : ab_Wd D dA base M H) (hF : ab_Fr base s.heap H locs) (hc : cells ≤ 600000) (hsl : slots ≤ 7302250)
    (k : ∀ M2 H2 locs2, Rl M2 → ab_Wd D dA base M2 H2 → ab_Fr base s.heap H2 locs2 → W p l e room_1 s m #[Value.ref b] below meth c H2 locs2 cells slots Q (F0 m 934 lsA [])) : W p l e room_1 s m #[Value.ref b] below meth c H locs cells slots Q (F0 m 265 lsA []) := by
  have hC' := hC
  obtain ⟨hx, hb, hml, hown, hts, hX, hbl, hK, hL⟩ := hC
  obtain ⟨b0, hS0⟩ := hRl M hM
  obtain ⟨f1, r1, M1, hx1, v, b1, rfl, hS1, f2, r2, M2, hx2, rfl, hR2⟩ := hP
  obtain ⟨b2, hS2⟩ := hRl M2 hR2
  obtain ⟨d1, hd1, hm1⟩ := ab_sound l D dA base 20 f1 78 _ M _ M1 hx1
  obtain ⟨d2, hd2, hm2⟩ := ab_sound l D dA base 20 f2 142 _ M1 _ M2 hx2
  refine lv_aload_n hx hb dl_265 rfl (lv_at hl 2 rfl) ?_
  refine law_arg hC' hb0 hl (j := 1) (by omega) hF dl_266 dl_267 dl_268 rfl dl_269 dl_270 ?_
  refine law_arg hC' hb0 hl (j := 2) (by omega) hF dl_271 dl_272 dl_273 rfl dl_274 dl_275 ?_
  refine law_call (as := [.int (xs (i + 1)), .int (xs (i + 2))]) (rest := []) hC' (idx := 36) (n := 2) (by decide +kernel) hm1 hd1 (by rw [hS0.1]; decide +kernel) (by decide +kernel) rfl dl_276 hWd hF hl.1 (by decide) (by rw [hS1.2.2.2.1, hS0.2.2.2.1]) (by rw [hS1.2.2.2.2, hS0.2.2.2.2]) hc hsl (fun H1 locs1 hWd1 hF1 => ?_)
  show W p l e room_1 s m #[Value.ref b] below meth c H1 locs1 cells slots Q (F0 m 279 lsA [.int v])
  refine lv_aload_n hx hb dl_279 rfl (lv_at hl 1 rfl) ?_
  refine law_arg hC' hb0 hl (j := 1) (by omega) hF1 dl_280 dl_281 dl_282 rfl dl_283 dl_284 ?_
  refine law_arg hC' hb0 hl (j := 2) (by omega) hF1 dl_285 dl_286 dl_287 rfl dl_288 dl_289 ?_
  refine law_call (as := [.int (xs (i + 1)), .int (xs (i + 2))]) (rest := [.int v]) hC' (idx := 39) (n := 2) (by decide +kernel) hm2 hd2 (by rw [hS1.1]; decide +kernel) (by decide +kernel) rfl dl_290 hWd1 hF1 hl.1 (Nat.le_of_ble_eq_true rfl) (by rw [hS2.2.2.2.1, hS1.2.2.2.1]) (by rw [hS2.2.2.2.2, hS1.2.2.2.2]) hc hsl (fun H2 locs2 hWd2 hF2 => ?_)
  show W p l e room_1 s m #[Value.ref b] below meth c H2 locs2 cells slots Q (F0 m 293 lsA [.int v, .int v])
  exact lv_icmp_eq (tgt := 934) hx hb dl_293 (by decide) (fun _ => k M2 H2 locs2 hR2 hWd2 hF2) (fun c0 => absurd rfl c0)

set_option maxHeartbeats 1000000 in
theorem law_case6 (hC : lwC p s m c b D dA L xs) (hb0 : base = s.heap.size) {i : Nat} (hl : lv_has lsA 4 [(3, .int (nI i)), (2, .ref (base + 102)), (1, .ref (base + 0)), (0, .ref b)]) (hi : i + 5 ≤ L) {Rl : ab_M → Prop} (hRl : ∀ M, Rl M → ∃ b, Sh b M) (hM : Rl M) (hP : lwStep Rl 79 147 [xs (i + 1)] M) (hWd : ab_Wd D dA base M H) (hF : ab_Fr base s.heap H locs) (hc : cells ≤ 600000) (hsl : slots ≤ 7302250)
    (k : ∀ M2 H2 locs2, Rl M2 → ab_Wd D dA base M2 H2 → ab_Fr base s.heap H2 locs2 → W p l e room_1 s m #[Value.ref b] below meth c H2 locs2 cells slots Q (F0 m 934 lsA [])) : W p l e room_1 s m #[Value.ref b] below meth c H locs cells slots Q (F0 m 298 lsA []) := by
  have hC' := hC
  obtain ⟨hx, hb, hml, hown, hts, hX, hbl, hK, hL⟩ := hC
  obtain ⟨b0, hS0⟩ := hRl M hM
  obtain ⟨f1, r1, M1, hx1, v, b1, rfl, hS1, f2, r2, M2, hx2, rfl, hR2⟩ := hP
  obtain ⟨b2, hS2⟩ := hRl M2 hR2
  obtain ⟨d1, hd1, hm1⟩ := ab_sound l D dA base 20 f1 79 _ M _ M1 hx1
  obtain ⟨d2, hd2, hm2⟩ := ab_sound l D dA base 20 f2 147 _ M1 _ M2 hx2
  refine lv_aload_n hx hb dl_298 rfl (lv_at hl 2 rfl) ?_
  refine law_arg hC' hb0 hl (j := 1) (by omega) hF dl_299 dl_300 dl_301 rfl dl_302 dl_303 ?_
  refine law_call (as := [.int (xs (i + 1))]) (rest := []) hC' (idx := 40) (n := 1) (by decide +kernel) hm1 hd1 (by rw [hS0.1]; decide +kernel) (by decide +kernel) rfl dl_304 hWd hF hl.1 (by decide) (by rw [hS1.2.2.2.1, hS0.2.2.2.1]) (by rw [hS1.2.2.2.2, hS0.2.2.2.2]) hc hsl (fun H1 locs1 hWd1 hF1 => ?_)
  show W p l e room_1 s m #[Value.ref b] below meth c H1 locs1 cells slots Q (F0 m 307 lsA [.int v])
  refine lv_aload_n hx hb dl_307 rfl (lv_at hl 1 rfl) ?_
  refine law_arg hC' hb0 hl (j := 1) (by omega) hF1 dl_308 dl_309 dl_310 rfl dl_311 dl_312 ?_
  refine law_call (as := [.int (xs (i + 1))]) (rest := [.int v]) hC' (idx := 43) (n := 1) (by decide +kernel) hm2 hd2 (by rw [hS1.1]; decide +kernel) (by decide +kernel) rfl dl_313 hWd1 hF1 hl.1 (Nat.le_of_ble_eq_true rfl) (by rw [hS2.2.2.2.1, hS1.2.2.2.1]) (by rw [hS2.2.2.2.2, hS1.2.2.2.2]) hc hsl (fun H2 locs2 hWd2 hF2 => ?_)
  show W p l e room_1 s m #[Value.ref b] below meth c H2 locs2 cells slots Q (F0 m 316 lsA [.int v, .int v])
  exact lv_icmp_eq (tgt := 934) hx hb dl_316 (by decide) (fun _ => k M2 H2 locs2 hR2 hWd2 hF2) (fun c0 => absurd rfl c0)

set_option maxHeartbeats 1000000 in
theorem law_case7 (hC : lwC p s m c b D dA L xs) (hb0 : base = s.heap.size) {i : Nat} (hl : lv_has lsA 4 [(3, .int (nI i)), (2, .ref (base + 102)), (1, .ref (base + 0)), (0, .ref b)]) (hi : i + 5 ≤ L) {Rl : ab_M → Prop} (hRl : ∀ M, Rl M → ∃ b, Sh b M) (hM : Rl M) (hP : lwStep Rl 80 148 [xs (i + 1)] M) (hWd : ab_Wd D dA base M H) (hF : ab_Fr base s.heap H locs) (hc : cells ≤ 600000) (hsl : slots ≤ 7302250)
    (k : ∀ M2 H2 locs2, Rl M2 → ab_Wd D dA base M2 H2 → ab_Fr base s.heap H2 locs2 → W p l e room_1 s m #[Value.ref b] below meth c H2 locs2 cells slots Q (F0 m 934 lsA [])) : W p l e room_1 s m #[Value.ref b] below meth c H locs cells slots Q (F0 m 321 lsA []) := by
  have hC' := hC
  obtain ⟨hx, hb, hml, hown, hts, hX, hbl, hK, hL⟩ := hC
  obtain ⟨b0, hS0⟩ := hRl M hM
  obtain ⟨f1, r1, M1, hx1, v, b1, rfl, hS1, f2, r2, M2, hx2, rfl, hR2⟩ := hP
  obtain ⟨b2, hS2⟩ := hRl M2 hR2
  obtain ⟨d1, hd1, hm1⟩ := ab_sound l D dA base 20 f1 80 _ M _ M1 hx1
  obtain ⟨d2, hd2, hm2⟩ := ab_sound l D dA base 20 f2 148 _ M1 _ M2 hx2
  refine lv_aload_n hx hb dl_321 rfl (lv_at hl 2 rfl) ?_
  refine law_arg hC' hb0 hl (j := 1) (by omega) hF dl_322 dl_323 dl_324 rfl dl_325 dl_326 ?_
  refine law_call (as := [.int (xs (i + 1))]) (rest := []) hC' (idx := 44) (n := 1) (by decide +kernel) hm1 hd1 (by rw [hS0.1]; decide +kernel) (by decide +kernel) rfl dl_327 hWd hF hl.1 (by decide) (by rw [hS1.2.2.2.1, hS0.2.2.2.1]) (by rw [hS1.2.2.2.2, hS0.2.2.2.2]) hc hsl (fun H1 locs1 hWd1 hF1 => ?_)
  show W p l e room_1 s m #[Value.ref b] below meth c H1 locs1 cells slots Q (F0 m 330 lsA [.int v])
  refine lv_aload_n hx hb dl_330 rfl (lv_at hl 1 rfl) ?_
  refine law_arg hC' hb0 hl (j := 1) (by omega) hF1 dl_331 dl_332 dl_333 rfl dl_334 dl_335 ?_
  refine law_call (as := [.int (xs (i + 1))]) (rest := [.int v]) hC' (idx := 47) (n := 1) (by decide +kernel) hm2 hd2 (by rw [hS1.1]; decide +kernel) (by decide +kernel) rfl dl_336 hWd1 hF1 hl.1 (Nat.le_of_ble_eq_true rfl) (by rw [hS2.2.2.2.1, hS1.2.2.2.1]) (by rw [hS2.2.2.2.2, hS1.2.2.2.2]) hc hsl (fun H2 locs2 hWd2 hF2 => ?_)
  show W p l e room_1 s m #[Value.ref b] below meth c H2 locs2 cells slots Q (F0 m 339 lsA [.int v, .int v])
  exact lv_icmp_eq (tgt := 934) hx hb dl_339 (by decide) (fun _ => k M2 H2 locs2 hR2 hWd2 hF2) (fun c0 => absurd rfl c0)

set_option maxHeartbeats 1000000 in
theorem law_case8 (hC : lwC p s m c b D dA L xs) (hb0 : base = s.heap.size) {i : Nat} (hl : lv_has lsA 4 [(3, .int (nI i)), (2, .ref (base + 102)), (1, .ref (base + 0)), (0, .ref b)]) (hi : i + 5 ≤ L) {Rl : ab_M → Prop} (hRl : ∀ M, Rl M → ∃ b, Sh b M) (hM : Rl M) (hP : lwStep Rl 81 150 [xs (i + 1), xs (i + 2)] M) (hWd : ab_Wd D dA base M H) (hF : ab_Fr base s.heap H locs) (hc : cells ≤ 600000) (hsl : slots ≤ 7302250)
    (k : ∀ M2 H2 locs2, Rl M2 → ab_Wd D dA base M2 H2 → ab_Fr base s.heap H2 locs2 → W p l e room_1 s m #[Value.ref b] below meth c H2 locs2 cells slots Q (F0 m 934 lsA [])) : W p l e room_1 s m #[Value.ref b] below meth c H locs cells slots Q (F0 m 344 lsA []) := by
  have hC' := hC
  obtain ⟨hx, hb, hml, hown, hts, hX, hbl, hK, hL⟩ := hC
  obtain ⟨b0, hS0⟩ := hRl M hM
  obtain ⟨f1, r1, M1, hx1, v, b1, rfl, hS1, f2, r2, M2, hx2, rfl, hR2⟩ := hP
  obtain ⟨b2, hS2⟩ := hRl M2 hR2
  obtain ⟨d1, hd1, hm1⟩ := ab_sound l D dA base 20 f1 81 _ M _ M1 hx1
  obtain ⟨d2, hd2, hm2⟩ := ab_sound l D dA base 20 f2 150 _ M1 _ M2 hx2
  refine lv_aload_n hx hb dl_344 rfl (lv_at hl 2 rfl) ?_
  refine law_arg hC' hb0 hl (j := 1) (by omega) hF dl_345 dl_346 dl_347 rfl dl_348 dl_349 ?_
  refine law_arg hC' hb0 hl (j := 2) (by omega) hF dl_350 dl_351 dl_352 rfl dl_353 dl_354 ?_
  refine law_call (as := [.int (xs (i + 1)), .int (xs (i + 2))]) (rest := []) hC' (idx := 48) (n := 2) (by decide +kernel) hm1 hd1 (by rw [hS0.1]; decide +kernel) (by decide +kernel) rfl dl_355 hWd hF hl.1 (by decide) (by rw [hS1.2.2.2.1, hS0.2.2.2.1]) (by rw [hS1.2.2.2.2, hS0.2.2.2.2]) hc hsl (fun H1 locs1 hWd1 hF1 => ?_)
  show W p l e room_1 s m #[Value.ref b] below meth c H1 locs1 cells slots Q (F0 m 358 lsA [.int v])
  refine lv_aload_n hx hb dl_358 rfl (lv_at hl 1 rfl) ?_
  refine law_arg hC' hb0 hl (j := 1) (by omega) hF1 dl_359 dl_360 dl_361 rfl dl_362 dl_363 ?_
  refine law_arg hC' hb0 hl (j := 2) (by omega) hF1 dl_364 dl_365 dl_366 rfl dl_367 dl_368 ?_
  refine law_call (as := [.int (xs (i + 1)), .int (xs (i + 2))]) (rest := [.int v]) hC' (idx := 51) (n := 2) (by decide +kernel) hm2 hd2 (by rw [hS1.1]; decide +kernel) (by decide +kernel) rfl dl_369 hWd1 hF1 hl.1 (Nat.le_of_ble_eq_true rfl) (by rw [hS2.2.2.2.1, hS1.2.2.2.1]) (by rw [hS2.2.2.2.2, hS1.2.2.2.2]) hc hsl (fun H2 locs2 hWd2 hF2 => ?_)
  show W p l e room_1 s m #[Value.ref b] below meth c H2 locs2 cells slots Q (F0 m 372 lsA [.int v, .int v])
  exact lv_icmp_eq (tgt := 934) hx hb dl_372 (by decide) (fun _ => k M2 H2 locs2 hR2 hWd2 hF2) (fun c0 => absurd rfl c0)

set_option maxHeartbeats 1000000 in
theorem law_case9 (hC : lwC p s m c b D dA L xs) (hb0 : base = s.heap.size) {i : Nat} (hl : lv_has lsA 4 [(3, .int (nI i)), (2, .ref (base + 102)), (1, .ref (base + 0)), (0, .ref b)]) (hi : i + 5 ≤ L) {Rl : ab_M → Prop} (hRl : ∀ M, Rl M → ∃ b, Sh b M) (hM : Rl M) (hP : lwStep Rl 82 151 [xs (i + 1), xs (i + 2)] M) (hWd : ab_Wd D dA base M H) (hF : ab_Fr base s.heap H locs) (hc : cells ≤ 600000) (hsl : slots ≤ 7302250)
    (k : ∀ M2 H2 locs2, Rl M2 → ab_Wd D dA base M2 H2 → ab_Fr base s.heap H2 locs2 → W p l e room_1 s m #[Value.ref b] below meth c H2 locs2 cells slots Q (F0 m 934 lsA [])) : W p l e room_1 s m #[Value.ref b] below meth c H locs cells slots Q (F0 m 377 lsA []) := by
  have hC' := hC
  obtain ⟨hx, hb, hml, hown, hts, hX, hbl, hK, hL⟩ := hC
  obtain ⟨b0, hS0⟩ := hRl M hM
  obtain ⟨f1, r1, M1, hx1, v, b1, rfl, hS1, f2, r2, M2, hx2, rfl, hR2⟩ := hP
  obtain ⟨b2, hS2⟩ := hRl M2 hR2
  obtain ⟨d1, hd1, hm1⟩ := ab_sound l D dA base 20 f1 82 _ M _ M1 hx1
  obtain ⟨d2, hd2, hm2⟩ := ab_sound l D dA base 20 f2 151 _ M1 _ M2 hx2
  refine lv_aload_n hx hb dl_377 rfl (lv_at hl 2 rfl) ?_
  refine law_arg hC' hb0 hl (j := 1) (by omega) hF dl_378 dl_379 dl_380 rfl dl_381 dl_382 ?_
  refine law_arg hC' hb0 hl (j := 2) (by omega) hF dl_383 dl_384 dl_385 rfl dl_386 dl_387 ?_
  refine law_call (as := [.int (xs (i + 1)), .int (xs (i + 2))]) (rest := []) hC' (idx := 52) (n := 2) (by decide +kernel) hm1 hd1 (by rw [hS0.1]; decide +kernel) (by decide +kernel) rfl dl_388 hWd hF hl.1 (by decide) (by rw [hS1.2.2.2.1, hS0.2.2.2.1]) (by rw [hS1.2.2.2.2, hS0.2.2.2.2]) hc hsl (fun H1 locs1 hWd1 hF1 => ?_)
  show W p l e room_1 s m #[Value.ref b] below meth c H1 locs1 cells slots Q (F0 m 391 lsA [.int v])
  refine lv_aload_n hx hb dl_391 rfl (lv_at hl 1 rfl) ?_
  refine law_arg hC' hb0 hl (j := 1) (by omega) hF1 dl_392 dl_393 dl_394 rfl dl_395 dl_396 ?_
  refine law_arg hC' hb0 hl (j := 2) (by omega) hF1 dl_397 dl_398 dl_399 rfl dl_400 dl_401 ?_
  refine law_call (as := [.int (xs (i + 1)), .int (xs (i + 2))]) (rest := [.int v]) hC' (idx := 55) (n := 2) (by decide +kernel) hm2 hd2 (by rw [hS1.1]; decide +kernel) (by decide +kernel) rfl dl_402 hWd1 hF1 hl.1 (Nat.le_of_ble_eq_true rfl) (by rw [hS2.2.2.2.1, hS1.2.2.2.1]) (by rw [hS2.2.2.2.2, hS1.2.2.2.2]) hc hsl (fun H2 locs2 hWd2 hF2 => ?_)
  show W p l e room_1 s m #[Value.ref b] below meth c H2 locs2 cells slots Q (F0 m 405 lsA [.int v, .int v])
  exact lv_icmp_eq (tgt := 934) hx hb dl_405 (by decide) (fun _ => k M2 H2 locs2 hR2 hWd2 hF2) (fun c0 => absurd rfl c0)

set_option maxHeartbeats 1000000 in
theorem law_case10 (hC : lwC p s m c b D dA L xs) (hb0 : base = s.heap.size) {i : Nat} (hl : lv_has lsA 4 [(3, .int (nI i)), (2, .ref (base + 102)), (1, .ref (base + 0)), (0, .ref b)]) (hi : i + 5 ≤ L) {Rl : ab_M → Prop} (hRl : ∀ M, Rl M → ∃ b, Sh b M) (hM : Rl M) (hP : lwStep Rl 83 152 [xs (i + 1), xs (i + 2), xs (i + 3)] M) (hWd : ab_Wd D dA base M H) (hF : ab_Fr base s.heap H locs) (hc : cells ≤ 600000) (hsl : slots ≤ 7302250)
    (k : ∀ M2 H2 locs2, Rl M2 → ab_Wd D dA base M2 H2 → ab_Fr base s.heap H2 locs2 → W p l e room_1 s m #[Value.ref b] below meth c H2 locs2 cells slots Q (F0 m 934 lsA [])) : W p l e room_1 s m #[Value.ref b] below meth c H locs cells slots Q (F0 m 410 lsA []) := by
  have hC' := hC
  obtain ⟨hx, hb, hml, hown, hts, hX, hbl, hK, hL⟩ := hC
  obtain ⟨b0, hS0⟩ := hRl M hM
  obtain ⟨f1, r1, M1, hx1, v, b1, rfl, hS1, f2, r2, M2, hx2, rfl, hR2⟩ := hP
  obtain ⟨b2, hS2⟩ := hRl M2 hR2
  obtain ⟨d1, hd1, hm1⟩ := ab_sound l D dA base 20 f1 83 _ M _ M1 hx1
  obtain ⟨d2, hd2, hm2⟩ := ab_sound l D dA base 20 f2 152 _ M1 _ M2 hx2
  refine lv_aload_n hx hb dl_410 rfl (lv_at hl 2 rfl) ?_
  refine law_arg hC' hb0 hl (j := 1) (by omega) hF dl_411 dl_412 dl_413 rfl dl_414 dl_415 ?_
  refine law_arg hC' hb0 hl (j := 2) (by omega) hF dl_416 dl_417 dl_418 rfl dl_419 dl_420 ?_
  refine law_arg hC' hb0 hl (j := 3) (by omega) hF dl_421 dl_422 dl_423 rfl dl_424 dl_425 ?_
  refine law_call (as := [.int (xs (i + 1)), .int (xs (i + 2)), .int (xs (i + 3))]) (rest := []) hC' (idx := 56) (n := 3) (by decide +kernel) hm1 hd1 (by rw [hS0.1]; decide +kernel) (by decide +kernel) rfl dl_426 hWd hF hl.1 (by decide) (by rw [hS1.2.2.2.1, hS0.2.2.2.1]) (by rw [hS1.2.2.2.2, hS0.2.2.2.2]) hc hsl (fun H1 locs1 hWd1 hF1 => ?_)
  show W p l e room_1 s m #[Value.ref b] below meth c H1 locs1 cells slots Q (F0 m 429 lsA [.int v])
  refine lv_aload_n hx hb dl_429 rfl (lv_at hl 1 rfl) ?_
  refine law_arg hC' hb0 hl (j := 1) (by omega) hF1 dl_430 dl_431 dl_432 rfl dl_433 dl_434 ?_
  refine law_arg hC' hb0 hl (j := 2) (by omega) hF1 dl_435 dl_436 dl_437 rfl dl_438 dl_439 ?_
  refine law_arg hC' hb0 hl (j := 3) (by omega) hF1 dl_440 dl_441 dl_442 rfl dl_443 dl_444 ?_
  refine law_call (as := [.int (xs (i + 1)), .int (xs (i + 2)), .int (xs (i + 3))]) (rest := [.int v]) hC' (idx := 60) (n := 3) (by decide +kernel) hm2 hd2 (by rw [hS1.1]; decide +kernel) (by decide +kernel) rfl dl_445 hWd1 hF1 hl.1 (Nat.le_of_ble_eq_true rfl) (by rw [hS2.2.2.2.1, hS1.2.2.2.1]) (by rw [hS2.2.2.2.2, hS1.2.2.2.2]) hc hsl (fun H2 locs2 hWd2 hF2 => ?_)
  show W p l e room_1 s m #[Value.ref b] below meth c H2 locs2 cells slots Q (F0 m 448 lsA [.int v, .int v])
  exact lv_icmp_eq (tgt := 934) hx hb dl_448 (by decide) (fun _ => k M2 H2 locs2 hR2 hWd2 hF2) (fun c0 => absurd rfl c0)

set_option maxHeartbeats 1000000 in
theorem law_case11 (hC : lwC p s m c b D dA L xs) (hb0 : base = s.heap.size) {i : Nat} (hl : lv_has lsA 4 [(3, .int (nI i)), (2, .ref (base + 102)), (1, .ref (base + 0)), (0, .ref b)]) (hi : i + 5 ≤ L) {Rl : ab_M → Prop} (hRl : ∀ M, Rl M → ∃ b, Sh b M) (hM : Rl M) (hP : lwStep Rl 84 154 [xs (i + 1)] M) (hWd : ab_Wd D dA base M H) (hF : ab_Fr base s.heap H locs) (hc : cells ≤ 600000) (hsl : slots ≤ 7302250)
    (k : ∀ M2 H2 locs2, Rl M2 → ab_Wd D dA base M2 H2 → ab_Fr base s.heap H2 locs2 → W p l e room_1 s m #[Value.ref b] below meth c H2 locs2 cells slots Q (F0 m 934 lsA [])) : W p l e room_1 s m #[Value.ref b] below meth c H locs cells slots Q (F0 m 453 lsA []) := by
  have hC' := hC
  obtain ⟨hx, hb, hml, hown, hts, hX, hbl, hK, hL⟩ := hC
  obtain ⟨b0, hS0⟩ := hRl M hM
  obtain ⟨f1, r1, M1, hx1, v, b1, rfl, hS1, f2, r2, M2, hx2, rfl, hR2⟩ := hP
  obtain ⟨b2, hS2⟩ := hRl M2 hR2
  obtain ⟨d1, hd1, hm1⟩ := ab_sound l D dA base 20 f1 84 _ M _ M1 hx1
  obtain ⟨d2, hd2, hm2⟩ := ab_sound l D dA base 20 f2 154 _ M1 _ M2 hx2
  refine lv_aload_n hx hb dl_453 rfl (lv_at hl 2 rfl) ?_
  refine law_arg hC' hb0 hl (j := 1) (by omega) hF dl_454 dl_455 dl_456 rfl dl_457 dl_458 ?_
  refine law_call (as := [.int (xs (i + 1))]) (rest := []) hC' (idx := 61) (n := 1) (by decide +kernel) hm1 hd1 (by rw [hS0.1]; decide +kernel) (by decide +kernel) rfl dl_459 hWd hF hl.1 (by decide) (by rw [hS1.2.2.2.1, hS0.2.2.2.1]) (by rw [hS1.2.2.2.2, hS0.2.2.2.2]) hc hsl (fun H1 locs1 hWd1 hF1 => ?_)
  show W p l e room_1 s m #[Value.ref b] below meth c H1 locs1 cells slots Q (F0 m 462 lsA [.int v])
  refine lv_aload_n hx hb dl_462 rfl (lv_at hl 1 rfl) ?_
  refine law_arg hC' hb0 hl (j := 1) (by omega) hF1 dl_463 dl_464 dl_465 rfl dl_466 dl_467 ?_
  refine law_call (as := [.int (xs (i + 1))]) (rest := [.int v]) hC' (idx := 64) (n := 1) (by decide +kernel) hm2 hd2 (by rw [hS1.1]; decide +kernel) (by decide +kernel) rfl dl_468 hWd1 hF1 hl.1 (Nat.le_of_ble_eq_true rfl) (by rw [hS2.2.2.2.1, hS1.2.2.2.1]) (by rw [hS2.2.2.2.2, hS1.2.2.2.2]) hc hsl (fun H2 locs2 hWd2 hF2 => ?_)
  show W p l e room_1 s m #[Value.ref b] below meth c H2 locs2 cells slots Q (F0 m 471 lsA [.int v, .int v])
  exact lv_icmp_eq (tgt := 934) hx hb dl_471 (by decide) (fun _ => k M2 H2 locs2 hR2 hWd2 hF2) (fun c0 => absurd rfl c0)

set_option maxHeartbeats 1000000 in
theorem law_case12 (hC : lwC p s m c b D dA L xs) (hb0 : base = s.heap.size) {i : Nat} (hl : lv_has lsA 4 [(3, .int (nI i)), (2, .ref (base + 102)), (1, .ref (base + 0)), (0, .ref b)]) (hi : i + 5 ≤ L) {Rl : ab_M → Prop} (hRl : ∀ M, Rl M → ∃ b, Sh b M) (hM : Rl M) (hP : lwStep Rl 85 155 [] M) (hWd : ab_Wd D dA base M H) (hF : ab_Fr base s.heap H locs) (hc : cells ≤ 600000) (hsl : slots ≤ 7302250)
    (k : ∀ M2 H2 locs2, Rl M2 → ab_Wd D dA base M2 H2 → ab_Fr base s.heap H2 locs2 → W p l e room_1 s m #[Value.ref b] below meth c H2 locs2 cells slots Q (F0 m 934 lsA [])) : W p l e room_1 s m #[Value.ref b] below meth c H locs cells slots Q (F0 m 476 lsA []) := by
  have hC' := hC
  obtain ⟨hx, hb, hml, hown, hts, hX, hbl, hK, hL⟩ := hC
  obtain ⟨b0, hS0⟩ := hRl M hM
  obtain ⟨f1, r1, M1, hx1, v, b1, rfl, hS1, f2, r2, M2, hx2, rfl, hR2⟩ := hP
  obtain ⟨b2, hS2⟩ := hRl M2 hR2
  obtain ⟨d1, hd1, hm1⟩ := ab_sound l D dA base 20 f1 85 _ M _ M1 hx1
  obtain ⟨d2, hd2, hm2⟩ := ab_sound l D dA base 20 f2 155 _ M1 _ M2 hx2
  refine lv_aload_n hx hb dl_476 rfl (lv_at hl 2 rfl) ?_
  refine law_call (as := []) (rest := []) hC' (idx := 65) (n := 0) (by decide +kernel) hm1 hd1 (by rw [hS0.1]; decide +kernel) (by decide +kernel) rfl dl_477 hWd hF hl.1 (by decide) (by rw [hS1.2.2.2.1, hS0.2.2.2.1]) (by rw [hS1.2.2.2.2, hS0.2.2.2.2]) hc hsl (fun H1 locs1 hWd1 hF1 => ?_)
  show W p l e room_1 s m #[Value.ref b] below meth c H1 locs1 cells slots Q (F0 m 480 lsA [.int v])
  refine lv_aload_n hx hb dl_480 rfl (lv_at hl 1 rfl) ?_
  refine law_call (as := []) (rest := [.int v]) hC' (idx := 68) (n := 0) (by decide +kernel) hm2 hd2 (by rw [hS1.1]; decide +kernel) (by decide +kernel) rfl dl_481 hWd1 hF1 hl.1 (Nat.le_of_ble_eq_true rfl) (by rw [hS2.2.2.2.1, hS1.2.2.2.1]) (by rw [hS2.2.2.2.2, hS1.2.2.2.2]) hc hsl (fun H2 locs2 hWd2 hF2 => ?_)
  show W p l e room_1 s m #[Value.ref b] below meth c H2 locs2 cells slots Q (F0 m 484 lsA [.int v, .int v])
  exact lv_icmp_eq (tgt := 934) hx hb dl_484 (by decide) (fun _ => k M2 H2 locs2 hR2 hWd2 hF2) (fun c0 => absurd rfl c0)

set_option maxHeartbeats 1000000 in
theorem law_case13 (hC : lwC p s m c b D dA L xs) (hb0 : base = s.heap.size) {i : Nat} (hl : lv_has lsA 4 [(3, .int (nI i)), (2, .ref (base + 102)), (1, .ref (base + 0)), (0, .ref b)]) (hi : i + 5 ≤ L) {Rl : ab_M → Prop} (hRl : ∀ M, Rl M → ∃ b, Sh b M) (hM : Rl M) (hP : lwStep Rl 86 159 [xs (i + 1), xs (i + 2)] M) (hWd : ab_Wd D dA base M H) (hF : ab_Fr base s.heap H locs) (hc : cells ≤ 600000) (hsl : slots ≤ 7302250)
    (k : ∀ M2 H2 locs2, Rl M2 → ab_Wd D dA base M2 H2 → ab_Fr base s.heap H2 locs2 → W p l e room_1 s m #[Value.ref b] below meth c H2 locs2 cells slots Q (F0 m 934 lsA [])) : W p l e room_1 s m #[Value.ref b] below meth c H locs cells slots Q (F0 m 489 lsA []) := by
  have hC' := hC
  obtain ⟨hx, hb, hml, hown, hts, hX, hbl, hK, hL⟩ := hC
  obtain ⟨b0, hS0⟩ := hRl M hM
  obtain ⟨f1, r1, M1, hx1, v, b1, rfl, hS1, f2, r2, M2, hx2, rfl, hR2⟩ := hP
  obtain ⟨b2, hS2⟩ := hRl M2 hR2
  obtain ⟨d1, hd1, hm1⟩ := ab_sound l D dA base 20 f1 86 _ M _ M1 hx1
  obtain ⟨d2, hd2, hm2⟩ := ab_sound l D dA base 20 f2 159 _ M1 _ M2 hx2
  refine lv_aload_n hx hb dl_489 rfl (lv_at hl 2 rfl) ?_
  refine law_arg hC' hb0 hl (j := 1) (by omega) hF dl_490 dl_491 dl_492 rfl dl_493 dl_494 ?_
  refine law_arg hC' hb0 hl (j := 2) (by omega) hF dl_495 dl_496 dl_497 rfl dl_498 dl_499 ?_
  refine law_call (as := [.int (xs (i + 1)), .int (xs (i + 2))]) (rest := []) hC' (idx := 69) (n := 2) (by decide +kernel) hm1 hd1 (by rw [hS0.1]; decide +kernel) (by decide +kernel) rfl dl_500 hWd hF hl.1 (by decide) (by rw [hS1.2.2.2.1, hS0.2.2.2.1]) (by rw [hS1.2.2.2.2, hS0.2.2.2.2]) hc hsl (fun H1 locs1 hWd1 hF1 => ?_)
  show W p l e room_1 s m #[Value.ref b] below meth c H1 locs1 cells slots Q (F0 m 503 lsA [.int v])
  refine lv_aload_n hx hb dl_503 rfl (lv_at hl 1 rfl) ?_
  refine law_arg hC' hb0 hl (j := 1) (by omega) hF1 dl_504 dl_505 dl_506 rfl dl_507 dl_508 ?_
  refine law_arg hC' hb0 hl (j := 2) (by omega) hF1 dl_509 dl_510 dl_511 rfl dl_512 dl_513 ?_
  refine law_call (as := [.int (xs (i + 1)), .int (xs (i + 2))]) (rest := [.int v]) hC' (idx := 72) (n := 2) (by decide +kernel) hm2 hd2 (by rw [hS1.1]; decide +kernel) (by decide +kernel) rfl dl_514 hWd1 hF1 hl.1 (Nat.le_of_ble_eq_true rfl) (by rw [hS2.2.2.2.1, hS1.2.2.2.1]) (by rw [hS2.2.2.2.2, hS1.2.2.2.2]) hc hsl (fun H2 locs2 hWd2 hF2 => ?_)
  show W p l e room_1 s m #[Value.ref b] below meth c H2 locs2 cells slots Q (F0 m 517 lsA [.int v, .int v])
  exact lv_icmp_eq (tgt := 934) hx hb dl_517 (by decide) (fun _ => k M2 H2 locs2 hR2 hWd2 hF2) (fun c0 => absurd rfl c0)

set_option maxHeartbeats 1000000 in
theorem law_case14 (hC : lwC p s m c b D dA L xs) (hb0 : base = s.heap.size) {i : Nat} (hl : lv_has lsA 4 [(3, .int (nI i)), (2, .ref (base + 102)), (1, .ref (base + 0)), (0, .ref b)]) (hi : i + 5 ≤ L) {Rl : ab_M → Prop} (hRl : ∀ M, Rl M → ∃ b, Sh b M) (hM : Rl M) (hP : lwStep Rl 87 161 [xs (i + 1), xs (i + 2), xs (i + 3)] M) (hWd : ab_Wd D dA base M H) (hF : ab_Fr base s.heap H locs) (hc : cells ≤ 600000) (hsl : slots ≤ 7302250)
    (k : ∀ M2 H2 locs2, Rl M2 → ab_Wd D dA base M2 H2 → ab_Fr base s.heap H2 locs2 → W p l e room_1 s m #[Value.ref b] below meth c H2 locs2 cells slots Q (F0 m 934 lsA [])) : W p l e room_1 s m #[Value.ref b] below meth c H locs cells slots Q (F0 m 522 lsA []) := by
  have hC' := hC
  obtain ⟨hx, hb, hml, hown, hts, hX, hbl, hK, hL⟩ := hC
  obtain ⟨b0, hS0⟩ := hRl M hM
  obtain ⟨f1, r1, M1, hx1, v, b1, rfl, hS1, f2, r2, M2, hx2, rfl, hR2⟩ := hP
  obtain ⟨b2, hS2⟩ := hRl M2 hR2
  obtain ⟨d1, hd1, hm1⟩ := ab_sound l D dA base 20 f1 87 _ M _ M1 hx1
  obtain ⟨d2, hd2, hm2⟩ := ab_sound l D dA base 20 f2 161 _ M1 _ M2 hx2
  refine lv_aload_n hx hb dl_522 rfl (lv_at hl 2 rfl) ?_
  refine law_arg hC' hb0 hl (j := 1) (by omega) hF dl_523 dl_524 dl_525 rfl dl_526 dl_527 ?_
  refine law_arg hC' hb0 hl (j := 2) (by omega) hF dl_528 dl_529 dl_530 rfl dl_531 dl_532 ?_
  refine law_arg hC' hb0 hl (j := 3) (by omega) hF dl_533 dl_534 dl_535 rfl dl_536 dl_537 ?_
  refine law_call (as := [.int (xs (i + 1)), .int (xs (i + 2)), .int (xs (i + 3))]) (rest := []) hC' (idx := 73) (n := 3) (by decide +kernel) hm1 hd1 (by rw [hS0.1]; decide +kernel) (by decide +kernel) rfl dl_538 hWd hF hl.1 (by decide) (by rw [hS1.2.2.2.1, hS0.2.2.2.1]) (by rw [hS1.2.2.2.2, hS0.2.2.2.2]) hc hsl (fun H1 locs1 hWd1 hF1 => ?_)
  show W p l e room_1 s m #[Value.ref b] below meth c H1 locs1 cells slots Q (F0 m 541 lsA [.int v])
  refine lv_aload_n hx hb dl_541 rfl (lv_at hl 1 rfl) ?_
  refine law_arg hC' hb0 hl (j := 1) (by omega) hF1 dl_542 dl_543 dl_544 rfl dl_545 dl_546 ?_
  refine law_arg hC' hb0 hl (j := 2) (by omega) hF1 dl_547 dl_548 dl_549 rfl dl_550 dl_551 ?_
  refine law_arg hC' hb0 hl (j := 3) (by omega) hF1 dl_552 dl_553 dl_554 rfl dl_555 dl_556 ?_
  refine law_call (as := [.int (xs (i + 1)), .int (xs (i + 2)), .int (xs (i + 3))]) (rest := [.int v]) hC' (idx := 76) (n := 3) (by decide +kernel) hm2 hd2 (by rw [hS1.1]; decide +kernel) (by decide +kernel) rfl dl_557 hWd1 hF1 hl.1 (Nat.le_of_ble_eq_true rfl) (by rw [hS2.2.2.2.1, hS1.2.2.2.1]) (by rw [hS2.2.2.2.2, hS1.2.2.2.2]) hc hsl (fun H2 locs2 hWd2 hF2 => ?_)
  show W p l e room_1 s m #[Value.ref b] below meth c H2 locs2 cells slots Q (F0 m 560 lsA [.int v, .int v])
  exact lv_icmp_eq (tgt := 934) hx hb dl_560 (by decide) (fun _ => k M2 H2 locs2 hR2 hWd2 hF2) (fun c0 => absurd rfl c0)

set_option maxHeartbeats 1000000 in
theorem law_case15 (hC : lwC p s m c b D dA L xs) (hb0 : base = s.heap.size) {i : Nat} (hl : lv_has lsA 4 [(3, .int (nI i)), (2, .ref (base + 102)), (1, .ref (base + 0)), (0, .ref b)]) (hi : i + 5 ≤ L) {Rl : ab_M → Prop} (hRl : ∀ M, Rl M → ∃ b, Sh b M) (hM : Rl M) (hP : lwStep Rl 88 162 [xs (i + 1)] M) (hWd : ab_Wd D dA base M H) (hF : ab_Fr base s.heap H locs) (hc : cells ≤ 600000) (hsl : slots ≤ 7302250)
    (k : ∀ M2 H2 locs2, Rl M2 → ab_Wd D dA base M2 H2 → ab_Fr base s.heap H2 locs2 → W p l e room_1 s m #[Value.ref b] below meth c H2 locs2 cells slots Q (F0 m 934 lsA [])) : W p l e room_1 s m #[Value.ref b] below meth c H locs cells slots Q (F0 m 565 lsA []) := by
  have hC' := hC
  obtain ⟨hx, hb, hml, hown, hts, hX, hbl, hK, hL⟩ := hC
  obtain ⟨b0, hS0⟩ := hRl M hM
  obtain ⟨f1, r1, M1, hx1, v, b1, rfl, hS1, f2, r2, M2, hx2, rfl, hR2⟩ := hP
  obtain ⟨b2, hS2⟩ := hRl M2 hR2
  obtain ⟨d1, hd1, hm1⟩ := ab_sound l D dA base 20 f1 88 _ M _ M1 hx1
  obtain ⟨d2, hd2, hm2⟩ := ab_sound l D dA base 20 f2 162 _ M1 _ M2 hx2
  refine lv_aload_n hx hb dl_565 rfl (lv_at hl 2 rfl) ?_
  refine law_arg hC' hb0 hl (j := 1) (by omega) hF dl_566 dl_567 dl_568 rfl dl_569 dl_570 ?_
  refine law_call (as := [.int (xs (i + 1))]) (rest := []) hC' (idx := 77) (n := 1) (by decide +kernel) hm1 hd1 (by rw [hS0.1]; decide +kernel) (by decide +kernel) rfl dl_571 hWd hF hl.1 (by decide) (by rw [hS1.2.2.2.1, hS0.2.2.2.1]) (by rw [hS1.2.2.2.2, hS0.2.2.2.2]) hc hsl (fun H1 locs1 hWd1 hF1 => ?_)
  show W p l e room_1 s m #[Value.ref b] below meth c H1 locs1 cells slots Q (F0 m 574 lsA [.int v])
  refine lv_aload_n hx hb dl_574 rfl (lv_at hl 1 rfl) ?_
  refine law_arg hC' hb0 hl (j := 1) (by omega) hF1 dl_575 dl_576 dl_577 rfl dl_578 dl_579 ?_
  refine law_call (as := [.int (xs (i + 1))]) (rest := [.int v]) hC' (idx := 80) (n := 1) (by decide +kernel) hm2 hd2 (by rw [hS1.1]; decide +kernel) (by decide +kernel) rfl dl_580 hWd1 hF1 hl.1 (Nat.le_of_ble_eq_true rfl) (by rw [hS2.2.2.2.1, hS1.2.2.2.1]) (by rw [hS2.2.2.2.2, hS1.2.2.2.2]) hc hsl (fun H2 locs2 hWd2 hF2 => ?_)
  show W p l e room_1 s m #[Value.ref b] below meth c H2 locs2 cells slots Q (F0 m 583 lsA [.int v, .int v])
  exact lv_icmp_eq (tgt := 934) hx hb dl_583 (by decide) (fun _ => k M2 H2 locs2 hR2 hWd2 hF2) (fun c0 => absurd rfl c0)

set_option maxHeartbeats 1000000 in
theorem law_case16 (hC : lwC p s m c b D dA L xs) (hb0 : base = s.heap.size) {i : Nat} (hl : lv_has lsA 4 [(3, .int (nI i)), (2, .ref (base + 102)), (1, .ref (base + 0)), (0, .ref b)]) (hi : i + 5 ≤ L) {Rl : ab_M → Prop} (hRl : ∀ M, Rl M → ∃ b, Sh b M) (hM : Rl M) (hP : lwStep Rl 89 163 [xs (i + 1)] M) (hWd : ab_Wd D dA base M H) (hF : ab_Fr base s.heap H locs) (hc : cells ≤ 600000) (hsl : slots ≤ 7302250)
    (k : ∀ M2 H2 locs2, Rl M2 → ab_Wd D dA base M2 H2 → ab_Fr base s.heap H2 locs2 → W p l e room_1 s m #[Value.ref b] below meth c H2 locs2 cells slots Q (F0 m 934 lsA [])) : W p l e room_1 s m #[Value.ref b] below meth c H locs cells slots Q (F0 m 588 lsA []) := by
  have hC' := hC
  obtain ⟨hx, hb, hml, hown, hts, hX, hbl, hK, hL⟩ := hC
  obtain ⟨b0, hS0⟩ := hRl M hM
  obtain ⟨f1, r1, M1, hx1, v, b1, rfl, hS1, f2, r2, M2, hx2, rfl, hR2⟩ := hP
  obtain ⟨b2, hS2⟩ := hRl M2 hR2
  obtain ⟨d1, hd1, hm1⟩ := ab_sound l D dA base 20 f1 89 _ M _ M1 hx1
  obtain ⟨d2, hd2, hm2⟩ := ab_sound l D dA base 20 f2 163 _ M1 _ M2 hx2
  refine lv_aload_n hx hb dl_588 rfl (lv_at hl 2 rfl) ?_
  refine law_arg hC' hb0 hl (j := 1) (by omega) hF dl_589 dl_590 dl_591 rfl dl_592 dl_593 ?_
  refine law_call (as := [.int (xs (i + 1))]) (rest := []) hC' (idx := 81) (n := 1) (by decide +kernel) hm1 hd1 (by rw [hS0.1]; decide +kernel) (by decide +kernel) rfl dl_594 hWd hF hl.1 (by decide) (by rw [hS1.2.2.2.1, hS0.2.2.2.1]) (by rw [hS1.2.2.2.2, hS0.2.2.2.2]) hc hsl (fun H1 locs1 hWd1 hF1 => ?_)
  show W p l e room_1 s m #[Value.ref b] below meth c H1 locs1 cells slots Q (F0 m 597 lsA [.int v])
  refine lv_aload_n hx hb dl_597 rfl (lv_at hl 1 rfl) ?_
  refine law_arg hC' hb0 hl (j := 1) (by omega) hF1 dl_598 dl_599 dl_600 rfl dl_601 dl_602 ?_
  refine law_call (as := [.int (xs (i + 1))]) (rest := [.int v]) hC' (idx := 84) (n := 1) (by decide +kernel) hm2 hd2 (by rw [hS1.1]; decide +kernel) (by decide +kernel) rfl dl_603 hWd1 hF1 hl.1 (Nat.le_of_ble_eq_true rfl) (by rw [hS2.2.2.2.1, hS1.2.2.2.1]) (by rw [hS2.2.2.2.2, hS1.2.2.2.2]) hc hsl (fun H2 locs2 hWd2 hF2 => ?_)
  show W p l e room_1 s m #[Value.ref b] below meth c H2 locs2 cells slots Q (F0 m 606 lsA [.int v, .int v])
  exact lv_icmp_eq (tgt := 934) hx hb dl_606 (by decide) (fun _ => k M2 H2 locs2 hR2 hWd2 hF2) (fun c0 => absurd rfl c0)

set_option maxHeartbeats 1000000 in
theorem law_case17 (hC : lwC p s m c b D dA L xs) (hb0 : base = s.heap.size) {i : Nat} (hl : lv_has lsA 4 [(3, .int (nI i)), (2, .ref (base + 102)), (1, .ref (base + 0)), (0, .ref b)]) (hi : i + 5 ≤ L) {Rl : ab_M → Prop} (hRl : ∀ M, Rl M → ∃ b, Sh b M) (hM : Rl M) (hP : lwStep Rl 90 164 [xs (i + 1), xs (i + 2)] M) (hWd : ab_Wd D dA base M H) (hF : ab_Fr base s.heap H locs) (hc : cells ≤ 600000) (hsl : slots ≤ 7302250)
    (k : ∀ M2 H2 locs2, Rl M2 → ab_Wd D dA base M2 H2 → ab_Fr base s.heap H2 locs2 → W p l e room_1 s m #[Value.ref b] below meth c H2 locs2 cells slots Q (F0 m 934 lsA [])) : W p l e room_1 s m #[Value.ref b] below meth c H locs cells slots Q (F0 m 611 lsA []) := by
  have hC' := hC
  obtain ⟨hx, hb, hml, hown, hts, hX, hbl, hK, hL⟩ := hC
  obtain ⟨b0, hS0⟩ := hRl M hM
  obtain ⟨f1, r1, M1, hx1, v, b1, rfl, hS1, f2, r2, M2, hx2, rfl, hR2⟩ := hP
  obtain ⟨b2, hS2⟩ := hRl M2 hR2
  obtain ⟨d1, hd1, hm1⟩ := ab_sound l D dA base 20 f1 90 _ M _ M1 hx1
  obtain ⟨d2, hd2, hm2⟩ := ab_sound l D dA base 20 f2 164 _ M1 _ M2 hx2
  refine lv_aload_n hx hb dl_611 rfl (lv_at hl 2 rfl) ?_
  refine law_arg hC' hb0 hl (j := 1) (by omega) hF dl_612 dl_613 dl_614 rfl dl_615 dl_616 ?_
  refine law_arg hC' hb0 hl (j := 2) (by omega) hF dl_617 dl_618 dl_619 rfl dl_620 dl_621 ?_
  refine law_call (as := [.int (xs (i + 1)), .int (xs (i + 2))]) (rest := []) hC' (idx := 85) (n := 2) (by decide +kernel) hm1 hd1 (by rw [hS0.1]; decide +kernel) (by decide +kernel) rfl dl_622 hWd hF hl.1 (by decide) (by rw [hS1.2.2.2.1, hS0.2.2.2.1]) (by rw [hS1.2.2.2.2, hS0.2.2.2.2]) hc hsl (fun H1 locs1 hWd1 hF1 => ?_)
  show W p l e room_1 s m #[Value.ref b] below meth c H1 locs1 cells slots Q (F0 m 625 lsA [.int v])
  refine lv_aload_n hx hb dl_625 rfl (lv_at hl 1 rfl) ?_
  refine law_arg hC' hb0 hl (j := 1) (by omega) hF1 dl_626 dl_627 dl_628 rfl dl_629 dl_630 ?_
  refine law_arg hC' hb0 hl (j := 2) (by omega) hF1 dl_631 dl_632 dl_633 rfl dl_634 dl_635 ?_
  refine law_call (as := [.int (xs (i + 1)), .int (xs (i + 2))]) (rest := [.int v]) hC' (idx := 88) (n := 2) (by decide +kernel) hm2 hd2 (by rw [hS1.1]; decide +kernel) (by decide +kernel) rfl dl_636 hWd1 hF1 hl.1 (Nat.le_of_ble_eq_true rfl) (by rw [hS2.2.2.2.1, hS1.2.2.2.1]) (by rw [hS2.2.2.2.2, hS1.2.2.2.2]) hc hsl (fun H2 locs2 hWd2 hF2 => ?_)
  show W p l e room_1 s m #[Value.ref b] below meth c H2 locs2 cells slots Q (F0 m 639 lsA [.int v, .int v])
  exact lv_icmp_eq (tgt := 934) hx hb dl_639 (by decide) (fun _ => k M2 H2 locs2 hR2 hWd2 hF2) (fun c0 => absurd rfl c0)

set_option maxHeartbeats 1000000 in
theorem law_case18 (hC : lwC p s m c b D dA L xs) (hb0 : base = s.heap.size) {i : Nat} (hl : lv_has lsA 4 [(3, .int (nI i)), (2, .ref (base + 102)), (1, .ref (base + 0)), (0, .ref b)]) (hi : i + 5 ≤ L) {Rl : ab_M → Prop} (hRl : ∀ M, Rl M → ∃ b, Sh b M) (hM : Rl M) (hP : lwStep Rl 91 166 [xs (i + 1), xs (i + 2)] M) (hWd : ab_Wd D dA base M H) (hF : ab_Fr base s.heap H locs) (hc : cells ≤ 600000) (hsl : slots ≤ 7302250)
    (k : ∀ M2 H2 locs2, Rl M2 → ab_Wd D dA base M2 H2 → ab_Fr base s.heap H2 locs2 → W p l e room_1 s m #[Value.ref b] below meth c H2 locs2 cells slots Q (F0 m 934 lsA [])) : W p l e room_1 s m #[Value.ref b] below meth c H locs cells slots Q (F0 m 644 lsA []) := by
  have hC' := hC
  obtain ⟨hx, hb, hml, hown, hts, hX, hbl, hK, hL⟩ := hC
  obtain ⟨b0, hS0⟩ := hRl M hM
  obtain ⟨f1, r1, M1, hx1, v, b1, rfl, hS1, f2, r2, M2, hx2, rfl, hR2⟩ := hP
  obtain ⟨b2, hS2⟩ := hRl M2 hR2
  obtain ⟨d1, hd1, hm1⟩ := ab_sound l D dA base 20 f1 91 _ M _ M1 hx1
  obtain ⟨d2, hd2, hm2⟩ := ab_sound l D dA base 20 f2 166 _ M1 _ M2 hx2
  refine lv_aload_n hx hb dl_644 rfl (lv_at hl 2 rfl) ?_
  refine law_arg hC' hb0 hl (j := 1) (by omega) hF dl_645 dl_646 dl_647 rfl dl_648 dl_649 ?_
  refine law_arg hC' hb0 hl (j := 2) (by omega) hF dl_650 dl_651 dl_652 rfl dl_653 dl_654 ?_
  refine law_call (as := [.int (xs (i + 1)), .int (xs (i + 2))]) (rest := []) hC' (idx := 89) (n := 2) (by decide +kernel) hm1 hd1 (by rw [hS0.1]; decide +kernel) (by decide +kernel) rfl dl_655 hWd hF hl.1 (by decide) (by rw [hS1.2.2.2.1, hS0.2.2.2.1]) (by rw [hS1.2.2.2.2, hS0.2.2.2.2]) hc hsl (fun H1 locs1 hWd1 hF1 => ?_)
  show W p l e room_1 s m #[Value.ref b] below meth c H1 locs1 cells slots Q (F0 m 658 lsA [.int v])
  refine lv_aload_n hx hb dl_658 rfl (lv_at hl 1 rfl) ?_
  refine law_arg hC' hb0 hl (j := 1) (by omega) hF1 dl_659 dl_660 dl_661 rfl dl_662 dl_663 ?_
  refine law_arg hC' hb0 hl (j := 2) (by omega) hF1 dl_664 dl_665 dl_666 rfl dl_667 dl_668 ?_
  refine law_call (as := [.int (xs (i + 1)), .int (xs (i + 2))]) (rest := [.int v]) hC' (idx := 92) (n := 2) (by decide +kernel) hm2 hd2 (by rw [hS1.1]; decide +kernel) (by decide +kernel) rfl dl_669 hWd1 hF1 hl.1 (Nat.le_of_ble_eq_true rfl) (by rw [hS2.2.2.2.1, hS1.2.2.2.1]) (by rw [hS2.2.2.2.2, hS1.2.2.2.2]) hc hsl (fun H2 locs2 hWd2 hF2 => ?_)
  show W p l e room_1 s m #[Value.ref b] below meth c H2 locs2 cells slots Q (F0 m 672 lsA [.int v, .int v])
  exact lv_icmp_eq (tgt := 934) hx hb dl_672 (by decide) (fun _ => k M2 H2 locs2 hR2 hWd2 hF2) (fun c0 => absurd rfl c0)

set_option maxHeartbeats 1000000 in
theorem law_case19 (hC : lwC p s m c b D dA L xs) (hb0 : base = s.heap.size) {i : Nat} (hl : lv_has lsA 4 [(3, .int (nI i)), (2, .ref (base + 102)), (1, .ref (base + 0)), (0, .ref b)]) (hi : i + 5 ≤ L) {Rl : ab_M → Prop} (hRl : ∀ M, Rl M → ∃ b, Sh b M) (hM : Rl M) (hP : lwStep Rl 92 170 [xs (i + 1), xs (i + 2), xs (i + 3), xs (i + 4)] M) (hWd : ab_Wd D dA base M H) (hF : ab_Fr base s.heap H locs) (hc : cells ≤ 600000) (hsl : slots ≤ 7302250)
    (k : ∀ M2 H2 locs2, Rl M2 → ab_Wd D dA base M2 H2 → ab_Fr base s.heap H2 locs2 → W p l e room_1 s m #[Value.ref b] below meth c H2 locs2 cells slots Q (F0 m 934 lsA [])) : W p l e room_1 s m #[Value.ref b] below meth c H locs cells slots Q (F0 m 677 lsA []) := by
  have hC' := hC
  obtain ⟨hx, hb, hml, hown, hts, hX, hbl, hK, hL⟩ := hC
  obtain ⟨b0, hS0⟩ := hRl M hM
  obtain ⟨f1, r1, M1, hx1, v, b1, rfl, hS1, f2, r2, M2, hx2, rfl, hR2⟩ := hP
  obtain ⟨b2, hS2⟩ := hRl M2 hR2
  obtain ⟨d1, hd1, hm1⟩ := ab_sound l D dA base 20 f1 92 _ M _ M1 hx1
  obtain ⟨d2, hd2, hm2⟩ := ab_sound l D dA base 20 f2 170 _ M1 _ M2 hx2
  refine lv_aload_n hx hb dl_677 rfl (lv_at hl 2 rfl) ?_
  refine law_arg hC' hb0 hl (j := 1) (by omega) hF dl_678 dl_679 dl_680 rfl dl_681 dl_682 ?_
  refine law_arg hC' hb0 hl (j := 2) (by omega) hF dl_683 dl_684 dl_685 rfl dl_686 dl_687 ?_
  refine law_arg hC' hb0 hl (j := 3) (by omega) hF dl_688 dl_689 dl_690 rfl dl_691 dl_692 ?_
  refine law_arg hC' hb0 hl (j := 4) (by omega) hF dl_693 dl_694 dl_695 rfl dl_696 dl_697 ?_
  refine law_call (as := [.int (xs (i + 1)), .int (xs (i + 2)), .int (xs (i + 3)), .int (xs (i + 4))]) (rest := []) hC' (idx := 93) (n := 4) (by decide +kernel) hm1 hd1 (by rw [hS0.1]; decide +kernel) (by decide +kernel) rfl dl_698 hWd hF hl.1 (by decide) (by rw [hS1.2.2.2.1, hS0.2.2.2.1]) (by rw [hS1.2.2.2.2, hS0.2.2.2.2]) hc hsl (fun H1 locs1 hWd1 hF1 => ?_)
  show W p l e room_1 s m #[Value.ref b] below meth c H1 locs1 cells slots Q (F0 m 701 lsA [.int v])
  refine lv_aload_n hx hb dl_701 rfl (lv_at hl 1 rfl) ?_
  refine law_arg hC' hb0 hl (j := 1) (by omega) hF1 dl_702 dl_703 dl_704 rfl dl_705 dl_706 ?_
  refine law_arg hC' hb0 hl (j := 2) (by omega) hF1 dl_707 dl_708 dl_709 rfl dl_710 dl_711 ?_
  refine law_arg hC' hb0 hl (j := 3) (by omega) hF1 dl_712 dl_713 dl_714 rfl dl_715 dl_716 ?_
  refine law_arg hC' hb0 hl (j := 4) (by omega) hF1 dl_717 dl_718 dl_719 rfl dl_720 dl_721 ?_
  refine law_call (as := [.int (xs (i + 1)), .int (xs (i + 2)), .int (xs (i + 3)), .int (xs (i + 4))]) (rest := [.int v]) hC' (idx := 97) (n := 4) (by decide +kernel) hm2 hd2 (by rw [hS1.1]; decide +kernel) (by decide +kernel) rfl dl_722 hWd1 hF1 hl.1 (Nat.le_of_ble_eq_true rfl) (by rw [hS2.2.2.2.1, hS1.2.2.2.1]) (by rw [hS2.2.2.2.2, hS1.2.2.2.2]) hc hsl (fun H2 locs2 hWd2 hF2 => ?_)
  show W p l e room_1 s m #[Value.ref b] below meth c H2 locs2 cells slots Q (F0 m 725 lsA [.int v, .int v])
  exact lv_icmp_eq (tgt := 934) hx hb dl_725 (by decide) (fun _ => k M2 H2 locs2 hR2 hWd2 hF2) (fun c0 => absurd rfl c0)

set_option maxHeartbeats 1000000 in
theorem law_case20 (hC : lwC p s m c b D dA L xs) (hb0 : base = s.heap.size) {i : Nat} (hl : lv_has lsA 4 [(3, .int (nI i)), (2, .ref (base + 102)), (1, .ref (base + 0)), (0, .ref b)]) (hi : i + 5 ≤ L) {Rl : ab_M → Prop} (hRl : ∀ M, Rl M → ∃ b, Sh b M) (hM : Rl M) (hP : lwStep Rl 93 171 [xs (i + 1), xs (i + 2)] M) (hWd : ab_Wd D dA base M H) (hF : ab_Fr base s.heap H locs) (hc : cells ≤ 600000) (hsl : slots ≤ 7302250)
    (k : ∀ M2 H2 locs2, Rl M2 → ab_Wd D dA base M2 H2 → ab_Fr base s.heap H2 locs2 → W p l e room_1 s m #[Value.ref b] below meth c H2 locs2 cells slots Q (F0 m 934 lsA [])) : W p l e room_1 s m #[Value.ref b] below meth c H locs cells slots Q (F0 m 730 lsA []) := by
  have hC' := hC
  obtain ⟨hx, hb, hml, hown, hts, hX, hbl, hK, hL⟩ := hC
  obtain ⟨b0, hS0⟩ := hRl M hM
  obtain ⟨f1, r1, M1, hx1, v, b1, rfl, hS1, f2, r2, M2, hx2, rfl, hR2⟩ := hP
  obtain ⟨b2, hS2⟩ := hRl M2 hR2
  obtain ⟨d1, hd1, hm1⟩ := ab_sound l D dA base 20 f1 93 _ M _ M1 hx1
  obtain ⟨d2, hd2, hm2⟩ := ab_sound l D dA base 20 f2 171 _ M1 _ M2 hx2
  refine lv_aload_n hx hb dl_730 rfl (lv_at hl 2 rfl) ?_
  refine law_arg hC' hb0 hl (j := 1) (by omega) hF dl_731 dl_732 dl_733 rfl dl_734 dl_735 ?_
  refine law_arg hC' hb0 hl (j := 2) (by omega) hF dl_736 dl_737 dl_738 rfl dl_739 dl_740 ?_
  refine law_call (as := [.int (xs (i + 1)), .int (xs (i + 2))]) (rest := []) hC' (idx := 98) (n := 2) (by decide +kernel) hm1 hd1 (by rw [hS0.1]; decide +kernel) (by decide +kernel) rfl dl_741 hWd hF hl.1 (by decide) (by rw [hS1.2.2.2.1, hS0.2.2.2.1]) (by rw [hS1.2.2.2.2, hS0.2.2.2.2]) hc hsl (fun H1 locs1 hWd1 hF1 => ?_)
  show W p l e room_1 s m #[Value.ref b] below meth c H1 locs1 cells slots Q (F0 m 744 lsA [.int v])
  refine lv_aload_n hx hb dl_744 rfl (lv_at hl 1 rfl) ?_
  refine law_arg hC' hb0 hl (j := 1) (by omega) hF1 dl_745 dl_746 dl_747 rfl dl_748 dl_749 ?_
  refine law_arg hC' hb0 hl (j := 2) (by omega) hF1 dl_750 dl_751 dl_752 rfl dl_753 dl_754 ?_
  refine law_call (as := [.int (xs (i + 1)), .int (xs (i + 2))]) (rest := [.int v]) hC' (idx := 101) (n := 2) (by decide +kernel) hm2 hd2 (by rw [hS1.1]; decide +kernel) (by decide +kernel) rfl dl_755 hWd1 hF1 hl.1 (Nat.le_of_ble_eq_true rfl) (by rw [hS2.2.2.2.1, hS1.2.2.2.1]) (by rw [hS2.2.2.2.2, hS1.2.2.2.2]) hc hsl (fun H2 locs2 hWd2 hF2 => ?_)
  show W p l e room_1 s m #[Value.ref b] below meth c H2 locs2 cells slots Q (F0 m 758 lsA [.int v, .int v])
  exact lv_icmp_eq (tgt := 934) hx hb dl_758 (by decide) (fun _ => k M2 H2 locs2 hR2 hWd2 hF2) (fun c0 => absurd rfl c0)

set_option maxHeartbeats 1000000 in
theorem law_case21 (hC : lwC p s m c b D dA L xs) (hb0 : base = s.heap.size) {i : Nat} (hl : lv_has lsA 4 [(3, .int (nI i)), (2, .ref (base + 102)), (1, .ref (base + 0)), (0, .ref b)]) (hi : i + 5 ≤ L) {Rl : ab_M → Prop} (hRl : ∀ M, Rl M → ∃ b, Sh b M) (hM : Rl M) (hP : lwStep Rl 94 173 [xs (i + 1), xs (i + 2), xs (i + 3)] M) (hWd : ab_Wd D dA base M H) (hF : ab_Fr base s.heap H locs) (hc : cells ≤ 600000) (hsl : slots ≤ 7302250)
    (k : ∀ M2 H2 locs2, Rl M2 → ab_Wd D dA base M2 H2 → ab_Fr base s.heap H2 locs2 → W p l e room_1 s m #[Value.ref b] below meth c H2 locs2 cells slots Q (F0 m 934 lsA [])) : W p l e room_1 s m #[Value.ref b] below meth c H locs cells slots Q (F0 m 763 lsA []) := by
  have hC' := hC
  obtain ⟨hx, hb, hml, hown, hts, hX, hbl, hK, hL⟩ := hC
  obtain ⟨b0, hS0⟩ := hRl M hM
  obtain ⟨f1, r1, M1, hx1, v, b1, rfl, hS1, f2, r2, M2, hx2, rfl, hR2⟩ := hP
  obtain ⟨b2, hS2⟩ := hRl M2 hR2
  obtain ⟨d1, hd1, hm1⟩ := ab_sound l D dA base 20 f1 94 _ M _ M1 hx1
  obtain ⟨d2, hd2, hm2⟩ := ab_sound l D dA base 20 f2 173 _ M1 _ M2 hx2
  refine lv_aload_n hx hb dl_763 rfl (lv_at hl 2 rfl) ?_
  refine law_arg hC' hb0 hl (j := 1) (by omega) hF dl_764 dl_765 dl_766 rfl dl_767 dl_768 ?_
  refine law_arg hC' hb0 hl (j := 2) (by omega) hF dl_769 dl_770 dl_771 rfl dl_772 dl_773 ?_
  refine law_arg hC' hb0 hl (j := 3) (by omega) hF dl_774 dl_775 dl_776 rfl dl_777 dl_778 ?_
  refine law_call (as := [.int (xs (i + 1)), .int (xs (i + 2)), .int (xs (i + 3))]) (rest := []) hC' (idx := 102) (n := 3) (by decide +kernel) hm1 hd1 (by rw [hS0.1]; decide +kernel) (by decide +kernel) rfl dl_779 hWd hF hl.1 (by decide) (by rw [hS1.2.2.2.1, hS0.2.2.2.1]) (by rw [hS1.2.2.2.2, hS0.2.2.2.2]) hc hsl (fun H1 locs1 hWd1 hF1 => ?_)
  show W p l e room_1 s m #[Value.ref b] below meth c H1 locs1 cells slots Q (F0 m 782 lsA [.int v])
  refine lv_aload_n hx hb dl_782 rfl (lv_at hl 1 rfl) ?_
  refine law_arg hC' hb0 hl (j := 1) (by omega) hF1 dl_783 dl_784 dl_785 rfl dl_786 dl_787 ?_
  refine law_arg hC' hb0 hl (j := 2) (by omega) hF1 dl_788 dl_789 dl_790 rfl dl_791 dl_792 ?_
  refine law_arg hC' hb0 hl (j := 3) (by omega) hF1 dl_793 dl_794 dl_795 rfl dl_796 dl_797 ?_
  refine law_call (as := [.int (xs (i + 1)), .int (xs (i + 2)), .int (xs (i + 3))]) (rest := [.int v]) hC' (idx := 105) (n := 3) (by decide +kernel) hm2 hd2 (by rw [hS1.1]; decide +kernel) (by decide +kernel) rfl dl_798 hWd1 hF1 hl.1 (Nat.le_of_ble_eq_true rfl) (by rw [hS2.2.2.2.1, hS1.2.2.2.1]) (by rw [hS2.2.2.2.2, hS1.2.2.2.2]) hc hsl (fun H2 locs2 hWd2 hF2 => ?_)
  show W p l e room_1 s m #[Value.ref b] below meth c H2 locs2 cells slots Q (F0 m 801 lsA [.int v, .int v])
  exact lv_icmp_eq (tgt := 934) hx hb dl_801 (by decide) (fun _ => k M2 H2 locs2 hR2 hWd2 hF2) (fun c0 => absurd rfl c0)

set_option maxHeartbeats 1000000 in
theorem law_case22 (hC : lwC p s m c b D dA L xs) (hb0 : base = s.heap.size) {i : Nat} (hl : lv_has lsA 4 [(3, .int (nI i)), (2, .ref (base + 102)), (1, .ref (base + 0)), (0, .ref b)]) (hi : i + 5 ≤ L) {Rl : ab_M → Prop} (hRl : ∀ M, Rl M → ∃ b, Sh b M) (hM : Rl M) (hP : lwStep Rl 95 174 [xs (i + 1), xs (i + 2)] M) (hWd : ab_Wd D dA base M H) (hF : ab_Fr base s.heap H locs) (hc : cells ≤ 600000) (hsl : slots ≤ 7302250)
    (k : ∀ M2 H2 locs2, Rl M2 → ab_Wd D dA base M2 H2 → ab_Fr base s.heap H2 locs2 → W p l e room_1 s m #[Value.ref b] below meth c H2 locs2 cells slots Q (F0 m 934 lsA [])) : W p l e room_1 s m #[Value.ref b] below meth c H locs cells slots Q (F0 m 806 lsA []) := by
  have hC' := hC
  obtain ⟨hx, hb, hml, hown, hts, hX, hbl, hK, hL⟩ := hC
  obtain ⟨b0, hS0⟩ := hRl M hM
  obtain ⟨f1, r1, M1, hx1, v, b1, rfl, hS1, f2, r2, M2, hx2, rfl, hR2⟩ := hP
  obtain ⟨b2, hS2⟩ := hRl M2 hR2
  obtain ⟨d1, hd1, hm1⟩ := ab_sound l D dA base 20 f1 95 _ M _ M1 hx1
  obtain ⟨d2, hd2, hm2⟩ := ab_sound l D dA base 20 f2 174 _ M1 _ M2 hx2
  refine lv_aload_n hx hb dl_806 rfl (lv_at hl 2 rfl) ?_
  refine law_arg hC' hb0 hl (j := 1) (by omega) hF dl_807 dl_808 dl_809 rfl dl_810 dl_811 ?_
  refine law_arg hC' hb0 hl (j := 2) (by omega) hF dl_812 dl_813 dl_814 rfl dl_815 dl_816 ?_
  refine law_call (as := [.int (xs (i + 1)), .int (xs (i + 2))]) (rest := []) hC' (idx := 106) (n := 2) (by decide +kernel) hm1 hd1 (by rw [hS0.1]; decide +kernel) (by decide +kernel) rfl dl_817 hWd hF hl.1 (by decide) (by rw [hS1.2.2.2.1, hS0.2.2.2.1]) (by rw [hS1.2.2.2.2, hS0.2.2.2.2]) hc hsl (fun H1 locs1 hWd1 hF1 => ?_)
  show W p l e room_1 s m #[Value.ref b] below meth c H1 locs1 cells slots Q (F0 m 820 lsA [.int v])
  refine lv_aload_n hx hb dl_820 rfl (lv_at hl 1 rfl) ?_
  refine law_arg hC' hb0 hl (j := 1) (by omega) hF1 dl_821 dl_822 dl_823 rfl dl_824 dl_825 ?_
  refine law_arg hC' hb0 hl (j := 2) (by omega) hF1 dl_826 dl_827 dl_828 rfl dl_829 dl_830 ?_
  refine law_call (as := [.int (xs (i + 1)), .int (xs (i + 2))]) (rest := [.int v]) hC' (idx := 109) (n := 2) (by decide +kernel) hm2 hd2 (by rw [hS1.1]; decide +kernel) (by decide +kernel) rfl dl_831 hWd1 hF1 hl.1 (Nat.le_of_ble_eq_true rfl) (by rw [hS2.2.2.2.1, hS1.2.2.2.1]) (by rw [hS2.2.2.2.2, hS1.2.2.2.2]) hc hsl (fun H2 locs2 hWd2 hF2 => ?_)
  show W p l e room_1 s m #[Value.ref b] below meth c H2 locs2 cells slots Q (F0 m 834 lsA [.int v, .int v])
  exact lv_icmp_eq (tgt := 934) hx hb dl_834 (by decide) (fun _ => k M2 H2 locs2 hR2 hWd2 hF2) (fun c0 => absurd rfl c0)

set_option maxHeartbeats 1000000 in
theorem law_case23 (hC : lwC p s m c b D dA L xs) (hb0 : base = s.heap.size) {i : Nat} (hl : lv_has lsA 4 [(3, .int (nI i)), (2, .ref (base + 102)), (1, .ref (base + 0)), (0, .ref b)]) (hi : i + 5 ≤ L) {Rl : ab_M → Prop} (hRl : ∀ M, Rl M → ∃ b, Sh b M) (hM : Rl M) (hP : lwStep Rl 96 175 [] M) (hWd : ab_Wd D dA base M H) (hF : ab_Fr base s.heap H locs) (hc : cells ≤ 600000) (hsl : slots ≤ 7302250)
    (k : ∀ M2 H2 locs2, Rl M2 → ab_Wd D dA base M2 H2 → ab_Fr base s.heap H2 locs2 → W p l e room_1 s m #[Value.ref b] below meth c H2 locs2 cells slots Q (F0 m 934 lsA [])) : W p l e room_1 s m #[Value.ref b] below meth c H locs cells slots Q (F0 m 839 lsA []) := by
  have hC' := hC
  obtain ⟨hx, hb, hml, hown, hts, hX, hbl, hK, hL⟩ := hC
  obtain ⟨b0, hS0⟩ := hRl M hM
  obtain ⟨f1, r1, M1, hx1, v, b1, rfl, hS1, f2, r2, M2, hx2, rfl, hR2⟩ := hP
  obtain ⟨b2, hS2⟩ := hRl M2 hR2
  obtain ⟨d1, hd1, hm1⟩ := ab_sound l D dA base 20 f1 96 _ M _ M1 hx1
  obtain ⟨d2, hd2, hm2⟩ := ab_sound l D dA base 20 f2 175 _ M1 _ M2 hx2
  refine lv_aload_n hx hb dl_839 rfl (lv_at hl 2 rfl) ?_
  refine law_call (as := []) (rest := []) hC' (idx := 110) (n := 0) (by decide +kernel) hm1 hd1 (by rw [hS0.1]; decide +kernel) (by decide +kernel) rfl dl_840 hWd hF hl.1 (by decide) (by rw [hS1.2.2.2.1, hS0.2.2.2.1]) (by rw [hS1.2.2.2.2, hS0.2.2.2.2]) hc hsl (fun H1 locs1 hWd1 hF1 => ?_)
  show W p l e room_1 s m #[Value.ref b] below meth c H1 locs1 cells slots Q (F0 m 843 lsA [.int v])
  refine lv_aload_n hx hb dl_843 rfl (lv_at hl 1 rfl) ?_
  refine law_call (as := []) (rest := [.int v]) hC' (idx := 113) (n := 0) (by decide +kernel) hm2 hd2 (by rw [hS1.1]; decide +kernel) (by decide +kernel) rfl dl_844 hWd1 hF1 hl.1 (Nat.le_of_ble_eq_true rfl) (by rw [hS2.2.2.2.1, hS1.2.2.2.1]) (by rw [hS2.2.2.2.2, hS1.2.2.2.2]) hc hsl (fun H2 locs2 hWd2 hF2 => ?_)
  show W p l e room_1 s m #[Value.ref b] below meth c H2 locs2 cells slots Q (F0 m 847 lsA [.int v, .int v])
  exact lv_icmp_eq (tgt := 934) hx hb dl_847 (by decide) (fun _ => k M2 H2 locs2 hR2 hWd2 hF2) (fun c0 => absurd rfl c0)

set_option maxHeartbeats 1000000 in
theorem law_case24 (hC : lwC p s m c b D dA L xs) (hb0 : base = s.heap.size) {i : Nat} (hl : lv_has lsA 4 [(3, .int (nI i)), (2, .ref (base + 102)), (1, .ref (base + 0)), (0, .ref b)]) (hi : i + 5 ≤ L) {Rl : ab_M → Prop} (hRl : ∀ M, Rl M → ∃ b, Sh b M) (hM : Rl M) (hP : lwStep Rl 97 176 [] M) (hWd : ab_Wd D dA base M H) (hF : ab_Fr base s.heap H locs) (hc : cells ≤ 600000) (hsl : slots ≤ 7302250)
    (k : ∀ M2 H2 locs2, Rl M2 → ab_Wd D dA base M2 H2 → ab_Fr base s.heap H2 locs2 → W p l e room_1 s m #[Value.ref b] below meth c H2 locs2 cells slots Q (F0 m 934 lsA [])) : W p l e room_1 s m #[Value.ref b] below meth c H locs cells slots Q (F0 m 852 lsA []) := by
  have hC' := hC
  obtain ⟨hx, hb, hml, hown, hts, hX, hbl, hK, hL⟩ := hC
  obtain ⟨b0, hS0⟩ := hRl M hM
  obtain ⟨f1, r1, M1, hx1, v, b1, rfl, hS1, f2, r2, M2, hx2, rfl, hR2⟩ := hP
  obtain ⟨b2, hS2⟩ := hRl M2 hR2
  obtain ⟨d1, hd1, hm1⟩ := ab_sound l D dA base 20 f1 97 _ M _ M1 hx1
  obtain ⟨d2, hd2, hm2⟩ := ab_sound l D dA base 20 f2 176 _ M1 _ M2 hx2
  refine lv_aload_n hx hb dl_852 rfl (lv_at hl 2 rfl) ?_
  refine law_call (as := []) (rest := []) hC' (idx := 114) (n := 0) (by decide +kernel) hm1 hd1 (by rw [hS0.1]; decide +kernel) (by decide +kernel) rfl dl_853 hWd hF hl.1 (by decide) (by rw [hS1.2.2.2.1, hS0.2.2.2.1]) (by rw [hS1.2.2.2.2, hS0.2.2.2.2]) hc hsl (fun H1 locs1 hWd1 hF1 => ?_)
  show W p l e room_1 s m #[Value.ref b] below meth c H1 locs1 cells slots Q (F0 m 856 lsA [.int v])
  refine lv_aload_n hx hb dl_856 rfl (lv_at hl 1 rfl) ?_
  refine law_call (as := []) (rest := [.int v]) hC' (idx := 117) (n := 0) (by decide +kernel) hm2 hd2 (by rw [hS1.1]; decide +kernel) (by decide +kernel) rfl dl_857 hWd1 hF1 hl.1 (Nat.le_of_ble_eq_true rfl) (by rw [hS2.2.2.2.1, hS1.2.2.2.1]) (by rw [hS2.2.2.2.2, hS1.2.2.2.2]) hc hsl (fun H2 locs2 hWd2 hF2 => ?_)
  show W p l e room_1 s m #[Value.ref b] below meth c H2 locs2 cells slots Q (F0 m 860 lsA [.int v, .int v])
  exact lv_icmp_eq (tgt := 934) hx hb dl_860 (by decide) (fun _ => k M2 H2 locs2 hR2 hWd2 hF2) (fun c0 => absurd rfl c0)

set_option maxHeartbeats 1000000 in
theorem law_case25 (hC : lwC p s m c b D dA L xs) (hb0 : base = s.heap.size) {i : Nat} (hl : lv_has lsA 4 [(3, .int (nI i)), (2, .ref (base + 102)), (1, .ref (base + 0)), (0, .ref b)]) (hi : i + 5 ≤ L) {Rl : ab_M → Prop} (hRl : ∀ M, Rl M → ∃ b, Sh b M) (hM : Rl M) (hP : lwStep Rl 98 177 [xs (i + 1)] M) (hWd : ab_Wd D dA base M H) (hF : ab_Fr base s.heap H locs) (hc : cells ≤ 600000) (hsl : slots ≤ 7302250)
    (k : ∀ M2 H2 locs2, Rl M2 → ab_Wd D dA base M2 H2 → ab_Fr base s.heap H2 locs2 → W p l e room_1 s m #[Value.ref b] below meth c H2 locs2 cells slots Q (F0 m 934 lsA [])) : W p l e room_1 s m #[Value.ref b] below meth c H locs cells slots Q (F0 m 865 lsA []) := by
  have hC' := hC
  obtain ⟨hx, hb, hml, hown, hts, hX, hbl, hK, hL⟩ := hC
  obtain ⟨b0, hS0⟩ := hRl M hM
  obtain ⟨f1, r1, M1, hx1, v, b1, rfl, hS1, f2, r2, M2, hx2, rfl, hR2⟩ := hP
  obtain ⟨b2, hS2⟩ := hRl M2 hR2
  obtain ⟨d1, hd1, hm1⟩ := ab_sound l D dA base 20 f1 98 _ M _ M1 hx1
  obtain ⟨d2, hd2, hm2⟩ := ab_sound l D dA base 20 f2 177 _ M1 _ M2 hx2
  refine lv_aload_n hx hb dl_865 rfl (lv_at hl 2 rfl) ?_
  refine law_arg hC' hb0 hl (j := 1) (by omega) hF dl_866 dl_867 dl_868 rfl dl_869 dl_870 ?_
  refine law_call (as := [.int (xs (i + 1))]) (rest := []) hC' (idx := 118) (n := 1) (by decide +kernel) hm1 hd1 (by rw [hS0.1]; decide +kernel) (by decide +kernel) rfl dl_871 hWd hF hl.1 (by decide) (by rw [hS1.2.2.2.1, hS0.2.2.2.1]) (by rw [hS1.2.2.2.2, hS0.2.2.2.2]) hc hsl (fun H1 locs1 hWd1 hF1 => ?_)
  show W p l e room_1 s m #[Value.ref b] below meth c H1 locs1 cells slots Q (F0 m 874 lsA [.int v])
  refine lv_aload_n hx hb dl_874 rfl (lv_at hl 1 rfl) ?_
  refine law_arg hC' hb0 hl (j := 1) (by omega) hF1 dl_875 dl_876 dl_877 rfl dl_878 dl_879 ?_
  refine law_call (as := [.int (xs (i + 1))]) (rest := [.int v]) hC' (idx := 121) (n := 1) (by decide +kernel) hm2 hd2 (by rw [hS1.1]; decide +kernel) (by decide +kernel) rfl dl_880 hWd1 hF1 hl.1 (Nat.le_of_ble_eq_true rfl) (by rw [hS2.2.2.2.1, hS1.2.2.2.1]) (by rw [hS2.2.2.2.2, hS1.2.2.2.2]) hc hsl (fun H2 locs2 hWd2 hF2 => ?_)
  show W p l e room_1 s m #[Value.ref b] below meth c H2 locs2 cells slots Q (F0 m 883 lsA [.int v, .int v])
  exact lv_icmp_eq (tgt := 934) hx hb dl_883 (by decide) (fun _ => k M2 H2 locs2 hR2 hWd2 hF2) (fun c0 => absurd rfl c0)

set_option maxHeartbeats 1000000 in
theorem law_case26 (hC : lwC p s m c b D dA L xs) (hb0 : base = s.heap.size) {i : Nat} (hl : lv_has lsA 4 [(3, .int (nI i)), (2, .ref (base + 102)), (1, .ref (base + 0)), (0, .ref b)]) (hi : i + 5 ≤ L) {Rl : ab_M → Prop} (hRl : ∀ M, Rl M → ∃ b, Sh b M) (hM : Rl M) (hP : lwStep Rl 99 178 [xs (i + 1)] M) (hWd : ab_Wd D dA base M H) (hF : ab_Fr base s.heap H locs) (hc : cells ≤ 600000) (hsl : slots ≤ 7302250)
    (k : ∀ M2 H2 locs2, Rl M2 → ab_Wd D dA base M2 H2 → ab_Fr base s.heap H2 locs2 → W p l e room_1 s m #[Value.ref b] below meth c H2 locs2 cells slots Q (F0 m 934 lsA [])) : W p l e room_1 s m #[Value.ref b] below meth c H locs cells slots Q (F0 m 888 lsA []) := by
  have hC' := hC
  obtain ⟨hx, hb, hml, hown, hts, hX, hbl, hK, hL⟩ := hC
  obtain ⟨b0, hS0⟩ := hRl M hM
  obtain ⟨f1, r1, M1, hx1, v, b1, rfl, hS1, f2, r2, M2, hx2, rfl, hR2⟩ := hP
  obtain ⟨b2, hS2⟩ := hRl M2 hR2
  obtain ⟨d1, hd1, hm1⟩ := ab_sound l D dA base 20 f1 99 _ M _ M1 hx1
  obtain ⟨d2, hd2, hm2⟩ := ab_sound l D dA base 20 f2 178 _ M1 _ M2 hx2
  refine lv_aload_n hx hb dl_888 rfl (lv_at hl 2 rfl) ?_
  refine law_arg hC' hb0 hl (j := 1) (by omega) hF dl_889 dl_890 dl_891 rfl dl_892 dl_893 ?_
  refine law_call (as := [.int (xs (i + 1))]) (rest := []) hC' (idx := 122) (n := 1) (by decide +kernel) hm1 hd1 (by rw [hS0.1]; decide +kernel) (by decide +kernel) rfl dl_894 hWd hF hl.1 (by decide) (by rw [hS1.2.2.2.1, hS0.2.2.2.1]) (by rw [hS1.2.2.2.2, hS0.2.2.2.2]) hc hsl (fun H1 locs1 hWd1 hF1 => ?_)
  show W p l e room_1 s m #[Value.ref b] below meth c H1 locs1 cells slots Q (F0 m 897 lsA [.int v])
  refine lv_aload_n hx hb dl_897 rfl (lv_at hl 1 rfl) ?_
  refine law_arg hC' hb0 hl (j := 1) (by omega) hF1 dl_898 dl_899 dl_900 rfl dl_901 dl_902 ?_
  refine law_call (as := [.int (xs (i + 1))]) (rest := [.int v]) hC' (idx := 125) (n := 1) (by decide +kernel) hm2 hd2 (by rw [hS1.1]; decide +kernel) (by decide +kernel) rfl dl_903 hWd1 hF1 hl.1 (Nat.le_of_ble_eq_true rfl) (by rw [hS2.2.2.2.1, hS1.2.2.2.1]) (by rw [hS2.2.2.2.2, hS1.2.2.2.2]) hc hsl (fun H2 locs2 hWd2 hF2 => ?_)
  show W p l e room_1 s m #[Value.ref b] below meth c H2 locs2 cells slots Q (F0 m 906 lsA [.int v, .int v])
  exact lv_icmp_eq (tgt := 934) hx hb dl_906 (by decide) (fun _ => k M2 H2 locs2 hR2 hWd2 hF2) (fun c0 => absurd rfl c0)

set_option maxHeartbeats 1000000 in
theorem law_case27 (hC : lwC p s m c b D dA L xs) (hb0 : base = s.heap.size) {i : Nat} (hl : lv_has lsA 4 [(3, .int (nI i)), (2, .ref (base + 102)), (1, .ref (base + 0)), (0, .ref b)]) (hi : i + 5 ≤ L) {Rl : ab_M → Prop} (hRl : ∀ M, Rl M → ∃ b, Sh b M) (hM : Rl M) (hP : lwStep Rl 100 179 [xs (i + 1)] M) (hWd : ab_Wd D dA base M H) (hF : ab_Fr base s.heap H locs) (hc : cells ≤ 600000) (hsl : slots ≤ 7302250)
    (k : ∀ M2 H2 locs2, Rl M2 → ab_Wd D dA base M2 H2 → ab_Fr base s.heap H2 locs2 → W p l e room_1 s m #[Value.ref b] below meth c H2 locs2 cells slots Q (F0 m 934 lsA [])) : W p l e room_1 s m #[Value.ref b] below meth c H locs cells slots Q (F0 m 911 lsA []) := by
  have hC' := hC
  obtain ⟨hx, hb, hml, hown, hts, hX, hbl, hK, hL⟩ := hC
  obtain ⟨b0, hS0⟩ := hRl M hM
  obtain ⟨f1, r1, M1, hx1, v, b1, rfl, hS1, f2, r2, M2, hx2, rfl, hR2⟩ := hP
  obtain ⟨b2, hS2⟩ := hRl M2 hR2
  obtain ⟨d1, hd1, hm1⟩ := ab_sound l D dA base 20 f1 100 _ M _ M1 hx1
  obtain ⟨d2, hd2, hm2⟩ := ab_sound l D dA base 20 f2 179 _ M1 _ M2 hx2
  refine lv_aload_n hx hb dl_911 rfl (lv_at hl 2 rfl) ?_
  refine law_arg hC' hb0 hl (j := 1) (by omega) hF dl_912 dl_913 dl_914 rfl dl_915 dl_916 ?_
  refine law_call (as := [.int (xs (i + 1))]) (rest := []) hC' (idx := 126) (n := 1) (by decide +kernel) hm1 hd1 (by rw [hS0.1]; decide +kernel) (by decide +kernel) rfl dl_917 hWd hF hl.1 (by decide) (by rw [hS1.2.2.2.1, hS0.2.2.2.1]) (by rw [hS1.2.2.2.2, hS0.2.2.2.2]) hc hsl (fun H1 locs1 hWd1 hF1 => ?_)
  show W p l e room_1 s m #[Value.ref b] below meth c H1 locs1 cells slots Q (F0 m 920 lsA [.int v])
  refine lv_aload_n hx hb dl_920 rfl (lv_at hl 1 rfl) ?_
  refine law_arg hC' hb0 hl (j := 1) (by omega) hF1 dl_921 dl_922 dl_923 rfl dl_924 dl_925 ?_
  refine law_call (as := [.int (xs (i + 1))]) (rest := [.int v]) hC' (idx := 129) (n := 1) (by decide +kernel) hm2 hd2 (by rw [hS1.1]; decide +kernel) (by decide +kernel) rfl dl_926 hWd1 hF1 hl.1 (Nat.le_of_ble_eq_true rfl) (by rw [hS2.2.2.2.1, hS1.2.2.2.1]) (by rw [hS2.2.2.2.2, hS1.2.2.2.2]) hc hsl (fun H2 locs2 hWd2 hF2 => ?_)
  show W p l e room_1 s m #[Value.ref b] below meth c H2 locs2 cells slots Q (F0 m 929 lsA [.int v, .int v])
  exact lv_icmp_eq (tgt := 934) hx hb dl_929 (by decide) (fun _ => k M2 H2 locs2 hR2 hWd2 hF2) (fun c0 => absurd rfl c0)

def lwAll (Rl : ab_M → Prop) : Prop :=
  (∀ (a0 : Int32) M, Rl M → lwStep Rl 73 124 [a0] M) ∧
  (∀  M, Rl M → lwStep Rl 74 134 [] M) ∧
  (∀  M, Rl M → lwStep Rl 75 135 [] M) ∧
  (∀ (a0 : Int32) M, Rl M → lwStep Rl 76 137 [a0] M) ∧
  (∀ (a0 a1 : Int32) M, Rl M → lwStep Rl 77 139 [a0, a1] M) ∧
  (∀ (a0 a1 : Int32) M, Rl M → lwStep Rl 78 142 [a0, a1] M) ∧
  (∀ (a0 : Int32) M, Rl M → lwStep Rl 79 147 [a0] M) ∧
  (∀ (a0 : Int32) M, Rl M → lwStep Rl 80 148 [a0] M) ∧
  (∀ (a0 a1 : Int32) M, Rl M → lwStep Rl 81 150 [a0, a1] M) ∧
  (∀ (a0 a1 : Int32) M, Rl M → lwStep Rl 82 151 [a0, a1] M) ∧
  (∀ (a0 a1 a2 : Int32) M, Rl M → lwStep Rl 83 152 [a0, a1, a2] M) ∧
  (∀ (a0 : Int32) M, Rl M → lwStep Rl 84 154 [a0] M) ∧
  (∀  M, Rl M → lwStep Rl 85 155 [] M) ∧
  (∀ (a0 a1 : Int32) M, Rl M → lwStep Rl 86 159 [a0, a1] M) ∧
  (∀ (a0 a1 a2 : Int32) M, Rl M → lwStep Rl 87 161 [a0, a1, a2] M) ∧
  (∀ (a0 : Int32) M, Rl M → lwStep Rl 88 162 [a0] M) ∧
  (∀ (a0 : Int32) M, Rl M → lwStep Rl 89 163 [a0] M) ∧
  (∀ (a0 a1 : Int32) M, Rl M → lwStep Rl 90 164 [a0, a1] M) ∧
  (∀ (a0 a1 : Int32) M, Rl M → lwStep Rl 91 166 [a0, a1] M) ∧
  (∀ (a0 a1 a2 a3 : Int32) M, Rl M → lwStep Rl 92 170 [a0, a1, a2, a3] M) ∧
  (∀ (a0 a1 : Int32) M, Rl M → lwStep Rl 93 171 [a0, a1] M) ∧
  (∀ (a0 a1 a2 : Int32) M, Rl M → lwStep Rl 94 173 [a0, a1, a2] M) ∧
  (∀ (a0 a1 : Int32) M, Rl M → lwStep Rl 95 174 [a0, a1] M) ∧
  (∀  M, Rl M → lwStep Rl 96 175 [] M) ∧
  (∀  M, Rl M → lwStep Rl 97 176 [] M) ∧
  (∀ (a0 : Int32) M, Rl M → lwStep Rl 98 177 [a0] M) ∧
  (∀ (a0 : Int32) M, Rl M → lwStep Rl 99 178 [a0] M) ∧
  (∀ (a0 : Int32) M, Rl M → lwStep Rl 100 179 [a0] M)
theorem nI5 {L : Nat} {i : Nat} (hL : L ≤ 320) (hi : i ≤ L) : (nI L - 5 < nI i) = (L < i + 5) := by
  apply propext
  have h1 : (nI L - 5).toInt = (L : Int) - 5 := pk_sub_toInt (a := L) (b := 5) (by omega) (by omega)
  rw [Int32.lt_iff_toInt_lt, h1, nI_toInt (by omega : i < 2 ^ 31)]
  omega
set_option maxHeartbeats 2000000 in
theorem law_loop (hC : lwC p s m c b D dA L xs) (hr : meth.sig.returnType = ret) (hlocks : meth.locks = false) (hb0 : base = s.heap.size) {Rl : ab_M → Prop} (hRl : ∀ M, Rl M → ∃ b, Sh b M) (hAll : lwAll Rl) (hc : cells ≤ 600000) (hsl : slots ≤ 7302250) : ∀ (n i : Nat), i ≤ L → L - i < n → ∀ (M : ab_M) (H : Heap) (locs : List Loc) (lsA : Array Slot), Rl M → ab_Wd D dA base M H → ab_Fr base s.heap H locs → lv_has lsA 4 [(3, .int (nI i)), (2, .ref (base + 102)), (1, .ref (base + 0)), (0, .ref b)] →
    W p l e room_1 s m #[Value.ref b] below meth c H locs cells slots (lw_Z below #[Value.ref b] s) (F0 m 18 lsA []) := by
  intro n
  induction n with
  | zero => intro i _ h; omega
  | succ n ih =>
    intro i hiL hn M H locs lsA hM hWd hF hl
    have hC' := hC
    obtain ⟨hx, hb, hml, hown, hts, hX, hbl, hK, hL⟩ := hC
    have hbA : ¬ (fun q => base ≤ q) b := by
      rw [hb0]
      exact Nat.not_le.mpr hbl
    have hS : va_S (fun q => base ≤ q) s.heap H locs := ⟨hF.1, fun q h1 h2 => hF.2.1 q (Nat.not_le.mp h2), hF.2.2⟩
    refine lv_iload_n hx hb dl_18 rfl (lv_at hl 0 rfl) ?_
    refine lv_aload_n hx hb dl_19 rfl (lv_at hl 3 rfl) ?_
    refine va_slen hx hb hX hbl hbA hS dl_20 ?_
    refine lv_iconst (v := 5) hx hb dl_21 (by decide) ?_
    refine lv_isub hx hb dl_22 ?_
    refine lv_icmp_gt (tgt := 940) hx hb dl_23 (by decide) (fun c0 => ?_) (fun c0 => ?_)
    · refine lv_iconst (v := 1) hx hb dl_940 (by decide) ?_
      refine va_forget (fun q hq => by rw [← hb0]; exact hF.2.2 q hq) ?_
      refine W.widen (k := 600000) (n := 7302250) hc hsl ?_
      exact lw_ret hx hb hr hlocks dl_941
    · have c1 : ¬ (nI L - 5 < nI i) := c0
      rw [nI5 hL hiL] at c1
      have hi : i + 5 ≤ L := by omega
      have hin : vp_in (nI i) L := vp_in_nI (by omega) (by omega)
      refine lv_aload_n hx hb dl_26 rfl (lv_at hl 3 rfl) ?_
      refine lv_iload_n hx hb dl_27 rfl (lv_at hl 0 rfl) ?_
      refine va_sld hx hb hX hbl hbA hS hin dl_28 ?_
      refine lv_bipush (v := 31) hx hb dl_29 (by decide) ?_
      refine lv_iand hx hb dl_31 ?_
      obtain ⟨j, hj, ej⟩ := pk_andE (xs (nI i).toNatClampNeg) (m := 31) 5 (by decide)
      rw [ej]
      have go : ∀ M2 H2 locs2, Rl M2 → ab_Wd D dA base M2 H2 → ab_Fr base s.heap H2 locs2 → W p l e room_1 s m #[Value.ref b] below meth c H2 locs2 cells slots (lw_Z below #[Value.ref b] s) (F0 m 934 lsA []) := by
        intro M2 H2 locs2 hM2 hWd2 hF2
        refine lv_iinc (v := nI (i + 5)) (lv' := [(3, .int (nI (i + 5))), (2, .ref (base + 102)), (1, .ref (base + 0)), (0, .ref b)]) hx hb dl_934 hl (k := 0) rfl (by rw [show Int32.ofInt 5 = nI 5 from by decide, nI_add]) (by decide) rfl (fun ls hl2 => ?_)
        refine lv_goto (tgt := 18) hx hb dl_937 (by decide) ?_
        exact ih (i + 5) hi (by omega) M2 H2 locs2 ls hM2 hWd2 hF2 hl2
      have dflt : ∀ j : Nat, 28 ≤ j → j < 32 → W p l e room_1 s m #[Value.ref b] below meth c H locs cells slots (lw_Z below #[Value.ref b] s) (F0 m 32 lsA [.int (nI j)]) := by
        intro j h1 h2
        refine lv_tableOut (tgt := 934) hx hb dl_32 (Or.inr ?_) (by decide) (go M H locs hM hWd hF)
        rw [nI_toInt (by omega)]
        omega
      rcases Nat.lt_or_ge j 28 with h28 | h28
      · clear dflt ej
        match j, h28 with
        | 0, _ =>
          refine lv_tableIn (off := 128) (tgt := 160) hx hb dl_32 (by decide) (by decide) (by decide) (by decide) ?_
          exact law_case0 hC' hb0 hl hi hRl hM (hAll.1 _ M hM) hWd hF hc hsl go
        | 1, _ =>
          refine lv_tableIn (off := 151) (tgt := 183) hx hb dl_32 (by decide) (by decide) (by decide) (by decide) ?_
          exact law_case1 hC' hb0 hl hi hRl hM (hAll.2.1  M hM) hWd hF hc hsl go
        | 2, _ =>
          refine lv_tableIn (off := 164) (tgt := 196) hx hb dl_32 (by decide) (by decide) (by decide) (by decide) ?_
          exact law_case2 hC' hb0 hl hi hRl hM (hAll.2.2.1  M hM) hWd hF hc hsl go
        | 3, _ =>
          refine lv_tableIn (off := 177) (tgt := 209) hx hb dl_32 (by decide) (by decide) (by decide) (by decide) ?_
          exact law_case3 hC' hb0 hl hi hRl hM (hAll.2.2.2.1 _ M hM) hWd hF hc hsl go
        | 4, _ =>
          refine lv_tableIn (off := 200) (tgt := 232) hx hb dl_32 (by decide) (by decide) (by decide) (by decide) ?_
          exact law_case4 hC' hb0 hl hi hRl hM (hAll.2.2.2.2.1 _ _ M hM) hWd hF hc hsl go
        | 5, _ =>
          refine lv_tableIn (off := 233) (tgt := 265) hx hb dl_32 (by decide) (by decide) (by decide) (by decide) ?_
          exact law_case5 hC' hb0 hl hi hRl hM (hAll.2.2.2.2.2.1 _ _ M hM) hWd hF hc hsl go
        | 6, _ =>
          refine lv_tableIn (off := 266) (tgt := 298) hx hb dl_32 (by decide) (by decide) (by decide) (by decide) ?_
          exact law_case6 hC' hb0 hl hi hRl hM (hAll.2.2.2.2.2.2.1 _ M hM) hWd hF hc hsl go
        | 7, _ =>
          refine lv_tableIn (off := 289) (tgt := 321) hx hb dl_32 (by decide) (by decide) (by decide) (by decide) ?_
          exact law_case7 hC' hb0 hl hi hRl hM (hAll.2.2.2.2.2.2.2.1 _ M hM) hWd hF hc hsl go
        | 8, _ =>
          refine lv_tableIn (off := 312) (tgt := 344) hx hb dl_32 (by decide) (by decide) (by decide) (by decide) ?_
          exact law_case8 hC' hb0 hl hi hRl hM (hAll.2.2.2.2.2.2.2.2.1 _ _ M hM) hWd hF hc hsl go
        | 9, _ =>
          refine lv_tableIn (off := 345) (tgt := 377) hx hb dl_32 (by decide) (by decide) (by decide) (by decide) ?_
          exact law_case9 hC' hb0 hl hi hRl hM (hAll.2.2.2.2.2.2.2.2.2.1 _ _ M hM) hWd hF hc hsl go
        | 10, _ =>
          refine lv_tableIn (off := 378) (tgt := 410) hx hb dl_32 (by decide) (by decide) (by decide) (by decide) ?_
          exact law_case10 hC' hb0 hl hi hRl hM (hAll.2.2.2.2.2.2.2.2.2.2.1 _ _ _ M hM) hWd hF hc hsl go
        | 11, _ =>
          refine lv_tableIn (off := 421) (tgt := 453) hx hb dl_32 (by decide) (by decide) (by decide) (by decide) ?_
          exact law_case11 hC' hb0 hl hi hRl hM (hAll.2.2.2.2.2.2.2.2.2.2.2.1 _ M hM) hWd hF hc hsl go
        | 12, _ =>
          refine lv_tableIn (off := 444) (tgt := 476) hx hb dl_32 (by decide) (by decide) (by decide) (by decide) ?_
          exact law_case12 hC' hb0 hl hi hRl hM (hAll.2.2.2.2.2.2.2.2.2.2.2.2.1  M hM) hWd hF hc hsl go
        | 13, _ =>
          refine lv_tableIn (off := 457) (tgt := 489) hx hb dl_32 (by decide) (by decide) (by decide) (by decide) ?_
          exact law_case13 hC' hb0 hl hi hRl hM (hAll.2.2.2.2.2.2.2.2.2.2.2.2.2.1 _ _ M hM) hWd hF hc hsl go
        | 14, _ =>
          refine lv_tableIn (off := 490) (tgt := 522) hx hb dl_32 (by decide) (by decide) (by decide) (by decide) ?_
          exact law_case14 hC' hb0 hl hi hRl hM (hAll.2.2.2.2.2.2.2.2.2.2.2.2.2.2.1 _ _ _ M hM) hWd hF hc hsl go
        | 15, _ =>
          refine lv_tableIn (off := 533) (tgt := 565) hx hb dl_32 (by decide) (by decide) (by decide) (by decide) ?_
          exact law_case15 hC' hb0 hl hi hRl hM (hAll.2.2.2.2.2.2.2.2.2.2.2.2.2.2.2.1 _ M hM) hWd hF hc hsl go
        | 16, _ =>
          refine lv_tableIn (off := 556) (tgt := 588) hx hb dl_32 (by decide) (by decide) (by decide) (by decide) ?_
          exact law_case16 hC' hb0 hl hi hRl hM (hAll.2.2.2.2.2.2.2.2.2.2.2.2.2.2.2.2.1 _ M hM) hWd hF hc hsl go
        | 17, _ =>
          refine lv_tableIn (off := 579) (tgt := 611) hx hb dl_32 (by decide) (by decide) (by decide) (by decide) ?_
          exact law_case17 hC' hb0 hl hi hRl hM (hAll.2.2.2.2.2.2.2.2.2.2.2.2.2.2.2.2.2.1 _ _ M hM) hWd hF hc hsl go
        | 18, _ =>
          refine lv_tableIn (off := 612) (tgt := 644) hx hb dl_32 (by decide) (by decide) (by decide) (by decide) ?_
          exact law_case18 hC' hb0 hl hi hRl hM (hAll.2.2.2.2.2.2.2.2.2.2.2.2.2.2.2.2.2.2.1 _ _ M hM) hWd hF hc hsl go
        | 19, _ =>
          refine lv_tableIn (off := 645) (tgt := 677) hx hb dl_32 (by decide) (by decide) (by decide) (by decide) ?_
          exact law_case19 hC' hb0 hl hi hRl hM (hAll.2.2.2.2.2.2.2.2.2.2.2.2.2.2.2.2.2.2.2.1 _ _ _ _ M hM) hWd hF hc hsl go
        | 20, _ =>
          refine lv_tableIn (off := 698) (tgt := 730) hx hb dl_32 (by decide) (by decide) (by decide) (by decide) ?_
          exact law_case20 hC' hb0 hl hi hRl hM (hAll.2.2.2.2.2.2.2.2.2.2.2.2.2.2.2.2.2.2.2.2.1 _ _ M hM) hWd hF hc hsl go
        | 21, _ =>
          refine lv_tableIn (off := 731) (tgt := 763) hx hb dl_32 (by decide) (by decide) (by decide) (by decide) ?_
          exact law_case21 hC' hb0 hl hi hRl hM (hAll.2.2.2.2.2.2.2.2.2.2.2.2.2.2.2.2.2.2.2.2.2.1 _ _ _ M hM) hWd hF hc hsl go
        | 22, _ =>
          refine lv_tableIn (off := 774) (tgt := 806) hx hb dl_32 (by decide) (by decide) (by decide) (by decide) ?_
          exact law_case22 hC' hb0 hl hi hRl hM (hAll.2.2.2.2.2.2.2.2.2.2.2.2.2.2.2.2.2.2.2.2.2.2.1 _ _ M hM) hWd hF hc hsl go
        | 23, _ =>
          refine lv_tableIn (off := 807) (tgt := 839) hx hb dl_32 (by decide) (by decide) (by decide) (by decide) ?_
          exact law_case23 hC' hb0 hl hi hRl hM (hAll.2.2.2.2.2.2.2.2.2.2.2.2.2.2.2.2.2.2.2.2.2.2.2.1  M hM) hWd hF hc hsl go
        | 24, _ =>
          refine lv_tableIn (off := 820) (tgt := 852) hx hb dl_32 (by decide) (by decide) (by decide) (by decide) ?_
          exact law_case24 hC' hb0 hl hi hRl hM (hAll.2.2.2.2.2.2.2.2.2.2.2.2.2.2.2.2.2.2.2.2.2.2.2.2.1  M hM) hWd hF hc hsl go
        | 25, _ =>
          refine lv_tableIn (off := 833) (tgt := 865) hx hb dl_32 (by decide) (by decide) (by decide) (by decide) ?_
          exact law_case25 hC' hb0 hl hi hRl hM (hAll.2.2.2.2.2.2.2.2.2.2.2.2.2.2.2.2.2.2.2.2.2.2.2.2.2.1 _ M hM) hWd hF hc hsl go
        | 26, _ =>
          refine lv_tableIn (off := 856) (tgt := 888) hx hb dl_32 (by decide) (by decide) (by decide) (by decide) ?_
          exact law_case26 hC' hb0 hl hi hRl hM (hAll.2.2.2.2.2.2.2.2.2.2.2.2.2.2.2.2.2.2.2.2.2.2.2.2.2.2.1 _ M hM) hWd hF hc hsl go
        | 27, _ =>
          refine lv_tableIn (off := 879) (tgt := 911) hx hb dl_32 (by decide) (by decide) (by decide) (by decide) ?_
          exact law_case27 hC' hb0 hl hi hRl hM (hAll.2.2.2.2.2.2.2.2.2.2.2.2.2.2.2.2.2.2.2.2.2.2.2.2.2.2.2 _ M hM) hWd hF hc hsl go
        | z + 28, h => exact absurd h (by omega)
      · exact dflt j h28 hj

end LAW

