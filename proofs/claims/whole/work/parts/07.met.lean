/-! A RUN OF THE ABSTRACT MACHINE IS ONE OF THE MACHINE -/
theorem stp_grow {mi pc : Nat} {ins : Instr} {ls : ab_L} {st : List Value} {M : ab_M} {q : Nat × ab_L × List Value × ab_M} (h : stp mi pc ins ls st M = some (.inl q)) : mZ M ≤ mZ q.2.2.2 ∧ mS M ≤ mS q.2.2.2 := by
  cases ins <;> simp only [stp, qI, qII, qJJ, qT, qL, lvI, lvJ, lvA, bGet, bPut, bIld, bV, bSp, bSt, bCall, qN] at h <;> (repeat' split at h) <;> first | (cases h; done) | (cases h; exact ⟨Nat.le_refl _, Nat.le_refl _⟩) | (cases h; exact ⟨Nat.le_succ _, Nat.le_add_right _ _⟩)
theorem xs_grow {call : Nat → List Value → ab_M → Option (Option Value × ab_M)} (hc : ∀ y as M r M', call y as M = some (r, M') → mZ M ≤ mZ M' ∧ mS M ≤ mS M') (mi : Nat) : ∀ (f pc : Nat) (ls : ab_L) (st : List Value) (M : ab_M) (r : Option Value) (M' : ab_M), xs call mi f pc ls st M = some (r, M') → mZ M ≤ mZ M' ∧ mS M ≤ mS M' := by
  intro f
  induction f with
  | zero => intro pc ls st M r M' h; simp [xs] at h
  | succ f ih =>
    intro pc ls st M r M' h
    unfold xs at h
    cases h1 : lkC mi pc with
    | none => rw [h1] at h; simp at h
    | some ins =>
      rw [h1] at h
      dsimp only at h
      cases h2 : stp mi pc ins ls st M with
      | none => rw [h2] at h; simp at h
      | some q =>
        rw [h2] at h
        rcases q with q | q | ⟨y, as, rest⟩
        · have h3 := stp_grow h2
          have h4 := ih _ _ _ _ _ _ h
          exact ⟨Nat.le_trans h3.1 h4.1, Nat.le_trans h3.2 h4.2⟩
        · dsimp only at h
          cases h
          have h5 : M' = M := by
            clear ih
            cases ins <;> simp only [stp, qI, qII, qJJ, qT, qL, lvI, lvJ, lvA, bGet, bPut, bIld, bV, bSp, bSt, bCall, qN] at h2 <;> (repeat' split at h2) <;> first | (cases h2; done) | (cases h2; rfl)
          subst h5
          exact ⟨Nat.le_refl _, Nat.le_refl _⟩
        · dsimp only at h
          cases h3 : call y as M with
          | none => rw [h3] at h; simp at h
          | some q =>
            obtain ⟨r1, M1⟩ := q
            rw [h3] at h
            have h4 := ih _ _ _ _ _ _ h
            have h5 := hc _ _ _ _ _ h3
            exact ⟨Nat.le_trans h5.1 h4.1, Nat.le_trans h5.2 h4.2⟩
theorem xm_grow : ∀ (d f y : Nat) (as : List Value) (M : ab_M) (r : Option Value) (M' : ab_M), xm d f y as M = some (r, M') → mZ M ≤ mZ M' ∧ mS M ≤ mS M' := by
  intro d
  induction d with
  | zero => intro f y as M r M' h; simp [xm] at h
  | succ d ih =>
    intro f y as M r M' h
    unfold xm at h
    by_cases hr : ab_rk y ≤ d
    · rw [if_pos hr] at h
      exact ih _ _ _ _ _ _ h
    · rw [if_neg hr] at h
      obtain ⟨-, h⟩ := if_inv h
      exact xs_grow (fun y as M r M' h => ih f y as M r M' h) y f _ _ _ _ _ _ h
def ab_rm (d mc ms : Nat) : Room := { frames := d, cells := mc, slots := ms, locals := 60 * d }
def ab_Pre (D : va_G) (dA : Nat → ClassId) (base : Nat) (M : ab_M) (as : List Value) : Array Value → State → Prop := va_Pc (as.map (cv base)) (fun U => ab_Wd D dA base M U.heap ∧ ab_K D dA U)
def ab_Post (D : va_G) (dA : Nat → ClassId) (base : Nat) (M' : ab_M) (r : Option Value) : Array Value → State → Outcome → State → Prop := fun _ st oc t => oc = .returned (r.map (cv base)) ∧ ab_Wd D dA base M' t.heap ∧ st.heap.size ≤ t.heap.size ∧ ∀ q : Nat, q < base → t.heap[q]? = st.heap[q]?
abbrev ab_Fre (base : Nat) : Addr → Prop := fun q => base ≤ q
theorem ab_blind {D : va_G} {dA : Nat → ClassId} {base : Nat} {M : ab_M} {as : List Value} : FrameBlind (ab_Pre D dA base M as) := fun a U g mk h => ⟨h.1, h.2.1, h.2.2.same rfl⟩
theorem ab_init_none (mi : Nat) (h : ab_ini mi = true) : ab_ret mi = none := by
  have h1 : (ab_mL.all fun q => !(q.2.1.2.2.2) || (q.1.2.2.2).isNone) = true := by decide +kernel
  have h2 := List.all_eq_true.mp h1 _ (ab_me_mem mi)
  unfold ab_ini at h
  rw [h] at h2
  exact (by simpa using h2 : (ab_me mi).1.2.2.2 = none)
def ab_Met (l : Launch) (D : va_G) (dA : Nat → ClassId) (base d y : Nat) (as : List Value) (M : ab_M) (r : Option Value) (M' : ab_M) : Prop :=
  Met l (ab_yN y) (ab_wsM y) (ab_rm d (mZ M' - mZ M) (mS M' - mS M)) (ab_Pre D dA base M as) (ab_Post D dA base M' r) (mZ M' - mZ M) (mS M' - mS M) (ab_Fre base)
section ARN
variable {p : Program} {l : Launch} {e : Env} {R : Room} {s : State} {m : MethodId} {args : Array Value} {below : List Frame} {meth : Method} {c : Code} {H : Heap} {locs : List Loc} {cells slots : Nat} {Q : State → Prop}
variable {D : va_G} {dA : Nat → ClassId} {base mi pc : Nat} {ls : ab_L} {st : List Value} {M : ab_M} {lsA : Array Slot}
theorem ab_goon {mc ms : Nat} {rest : List Value} {st0 : List Value} {a : Array Value} {r : Option Value} {M1 : ab_M} (hr : va_Run p l e R s m args below meth c H locs cells slots mc ms (F0 m pc lsA st0) rest (ab_Post D dA base M1 r a) (ab_Fre base)) (hF : ab_Fr base s.heap H locs)
    (kk : ∀ H1 locs1, ab_Wd D dA base M1 H1 → ab_Fr base s.heap H1 locs1 → W p l e R s m args below meth c H1 locs1 (cells + mc) (slots + ms) Q (F0 m (pc + 3) lsA ((r.map (cv base)).toList ++ rest))) : W p l e R s m args below meth c H locs cells slots Q (F0 m pc lsA st0) := by
  intro T hT X
  obtain ⟨v, st₀, t, T', L, h0, X', hL, e1, e2, ⟨hv, hW, hz, hk⟩, st⟩ := hr T hT X
  cases hv
  rw [h0] at hz hk
  obtain ⟨t2, a1, b1⟩ := kk T'.heap (locs ++ L) (by rw [e1]; exact hW) ⟨Nat.le_trans hF.1 (by rw [e1]; exact hz), fun q hq => by rw [e1, hk q hq]; exact hF.2.1 q hq, fun q hq => by
      rcases List.mem_append.mp hq with h | h
      · exact hF.2.2 q h
      · exact hL q h⟩ T' rfl X'
  exact ⟨t2, st t2 a1, b1⟩
theorem ab_map_pop {as b : List Value} (h2 : as = b.reverse ++ []) : b.map (cv base) = (as.map (cv base)).reverse := by
  rw [h2, List.append_nil, List.map_reverse, List.reverse_reverse]
theorem ab_good {ws : List Cond} (h : ∀ w ∈ ws, w ∈ ab_W) : GoodIn (ab_wsM mi) ws := fun w hw => ⟨List.mem_cons_of_mem _ (h w hw), good_of_word (List.mem_filter.mp (h w hw)).2⟩
theorem ab_goodW {y : Nat} : ∀ w ∈ ab_wsM y, w ∈ ab_W := fun w hw => by
  rcases List.mem_cons.mp hw with rfl | h
  · exact (ab_facts y).1
  · exact h
set_option maxHeartbeats 2000000 in
theorem ab_call {ins : Instr} {y : Nat} {as rest : List Value} (hC : ab_Cx p R s m args meth c D dA base mi) (hd : lkC mi pc = some ins) (hR : ab_Rl s D dA base mi ls M H locs lsA) (h : stp mi pc ins ls st M = some (.inr (.inr (y, as, rest)))) {d1 : Nat} {r : Option Value} {M1 : ab_M} (hM : ab_Met l D dA base d1 y as M r M1) (hrf : d1 + 1 ≤ R.frames) (hrl : 60 * d1 + 60 ≤ R.locals)
    (hc : cells + (mZ M1 - mZ M) ≤ R.cells) (hs : slots + (mS M1 - mS M) ≤ R.slots)
    (k : ∀ H1 locs1, ab_Rl s D dA base mi ls M1 H1 locs1 lsA → W p l e R s m args below meth c H1 locs1 (cells + (mZ M1 - mZ M)) (slots + (mS M1 - mS M)) Q (F0 m (pc + 3) lsA ((pushR r rest).map (cv base)))) : W p l e R s m args below meth c H locs cells slots Q (F0 m pc lsA (st.map (cv base))) := by
  obtain ⟨hx, hb, hr, hml, hown, hts, hK, hlocks, hnm, hfr, hlo⟩ := hC
  have hpush : (pushR r rest).map (cv base) = (r.map (cv base)).toList ++ rest.map (cv base) := by cases r <;> rfl
  obtain ⟨hcode, hyo, -, hyh, hyi, hyl⟩ := ab_facts y
  have hcf : CallFix p m c (ab_by mi) (ab_ml mi) s args (ab_wsM mi) (ab_oN (ab_o mi)) := ⟨hx, hb, hml, hown, hts⟩
  have hW : ∀ w ∈ ab_W, w.before args s = true := fun w hw => hts w (List.mem_cons_of_mem _ hw)
  have hrm : (ab_rm d1 (mZ M1 - mZ M) (mS M1 - mS M)).frames + 1 ≤ R.frames ∧ 8 + (ab_ml y + 11) + (ab_rm d1 (mZ M1 - mZ M) (mS M1 - mS M)).locals ≤ R.locals := ⟨hrf, by show 8 + (ab_ml y + 11) + 60 * d1 ≤ R.locals; omega⟩
  have hpre : ∀ U : State, U.heap = H → s.WarmedH U.vm → ab_Pre D dA base M as (as.map (cv base)).toArray U := fun U hU hWm => ⟨rfl, by rw [hU]; exact hR.2.2.1, hK.warm hWm⟩
  have fin : ∀ (a : Array Value), va_Run p l e R s m args below meth c H locs cells slots (mZ M1 - mZ M) (mS M1 - mS M) (F0 m pc lsA (st.map (cv base))) (rest.map (cv base)) (ab_Post D dA base M1 r a) (ab_Fre base) → W p l e R s m args below meth c H locs cells slots Q (F0 m pc lsA (st.map (cv base))) := by
    intro a hrun
    refine ab_goon hrun hR.2.2.2 (fun H1 locs1 h1 h2 => ?_)
    rw [← hpush]
    exact k H1 locs1 ⟨hR.1, hR.2.1, h1, h2⟩
  cases ins with
  | invokevirtual i =>
    have h0 : bV M mi i st = some (.inr (.inr (y, as, rest))) := h
    clear h
    unfold bV at h0
    split at h0
    next y' n hl =>
      split at h0
      next as' a r' hp =>
        obtain ⟨hka, h1⟩ := if_inv h0
        unfold bCall at h1
        obtain ⟨hok, h2⟩ := if_inv h1
        cases h2
        obtain ⟨b, b1, b2, b3⟩ := popN_spec _ _ _ _ _ hp
        obtain ⟨pl, p1, p2, p3, ho⟩ := lkY_ok hl
        simp only [ab_okY, Bool.and_eq_true, decide_eq_true_eq] at ho
        obtain ⟨o1, o2, o3, o4, o5, -⟩ := ho
        have h12 : ab_o y < 12 := by
          have h9 : mK M a ≠ 99 := by
            intro e9
            rw [hka] at e9
            have : (ab_mL.all fun q => decide (q.2.1.1 < 99)) = true := by decide +kernel
            have h8 := List.all_eq_true.mp this _ (ab_me_mem y)
            have h7 : ab_o y < 99 := (by simpa using h8 : (ab_me y).2.1.1 < 99)
            omega
          have : (ab_yL.all fun q => !(q.2.2.1 == 0) || decide (ab_o q.2.2.2.1 < 12)) = true := by decide +kernel
          unfold lkY at hl
          split at hl
          next q hq =>
            have h8 := List.all_eq_true.mp this q (List.mem_of_find?_eq_some hq)
            simp only [Option.some.injEq, Prod.mk.injEq] at hl
            obtain ⟨e1, e2, e3⟩ := hl
            rw [e1, e2] at h8
            simpa using h8
          next => cases hl
        have hcell := ab_cO hR.2.2.1 hka h12
        obtain ⟨cellB, q1, q2, q3, -⟩ := hcell
        have hcl : ∃ T N, ab_cl[ab_o y]? = some ((ab_yN y).cls, T, N) := by
          rw [← hyo]
          generalize ab_o y = z at h12
          match z, h12 with
          | 0, _ => exact ⟨_, _, rfl⟩
          | 1, _ => exact ⟨_, _, rfl⟩
          | 2, _ => exact ⟨_, _, rfl⟩
          | 3, _ => exact ⟨_, _, rfl⟩
          | 4, _ => exact ⟨_, _, rfl⟩
          | 5, _ => exact ⟨_, _, rfl⟩
          | 6, _ => exact ⟨_, _, rfl⟩
          | 7, _ => exact ⟨_, _, rfl⟩
          | 8, _ => exact ⟨_, _, rfl⟩
          | 9, _ => exact ⟨_, _, rfl⟩
          | 10, _ => exact ⟨_, _, rfl⟩
          | 11, _ => exact ⟨_, _, rfl⟩
        obtain ⟨T, N, hcl⟩ := hcl
        have hcls := (hK.1.1 _ _ hcl).2.1
        refine fin _ (va_runV (C := (ab_yN y).cls) (b := base + a) (As := as'.map (cv base)) (n := n) hcf hM (cwV (ws' := ab_W) n hts (ab_good ?_) rfl rfl rfl ⟨rfl, hyh.1, hyh.2, o5⟩ hrm) ⟨ab_blind, ⟨cellB, q1, by rw [q3]; rfl, by rw [q2]; exact hcls⟩, hpre⟩ rfl (by rw [List.length_map, b2, List.append_nil, List.length_reverse]; exact b1) hR.1.1 ?_ (lv_room (okR_cv hok)) (dec1 2 hd rfl) ⟨hc, hs⟩)
        · intro w hw
          unfold wsV at hw
          rcases List.mem_append.mp hw with h | h
          · simp only [List.mem_cons, List.not_mem_nil, or_false] at h
            rcases h with rfl | rfl | rfl | rfl
            · exact ab_inW_mem o1
            · exact ab_inW_mem o2
            · exact ab_inW_mem o3
            · exact ab_inW_mem o4
          · exact ab_goodW w h
        · show st.map (cv base) = _
          rw [b3, List.map_append, ab_map_pop b2]
          rfl
      next => cases h0
    next => cases h0
  | invokespecial i =>
    have h0 : bSp pc ls M mi i st = some (.inr (.inr (y, as, rest))) := h
    clear h
    unfold bSp at h0
    split at h0
    next y' n hl =>
      split at h0
      next => obtain ⟨-, h0⟩ := if_inv h0; cases h0
      next => cases h0
    next y' n hl =>
      split at h0
      next as' a r' hp =>
        unfold bCall at h0
        obtain ⟨hok, h2⟩ := if_inv h0
        cases h2
        obtain ⟨b, b1, b2, b3⟩ := popN_spec _ _ _ _ _ hp
        obtain ⟨pl, p1, p2, p3, ho⟩ := lkY_ok hl
        simp only [ab_okY, Bool.and_eq_true, decide_eq_true_eq] at ho
        obtain ⟨o1, o2, o3, o4, o5, -⟩ := ho
        have hret : ab_ret y = none := ab_init_none y (by rw [← hyi]; exact o5)
        have hM' : Met l (ab_yN y) (Cond.code (ab_yN y) (ab_by y) (ab_ml y) none :: ab_W) (ab_rm d1 (mZ M1 - mZ M) (mS M1 - mS M)) (ab_Pre D dA base M (.ref a :: as')) (ab_Post D dA base M1 r) (mZ M1 - mZ M) (mS M1 - mS M) (ab_Fre base) := by
          have h9 : ab_Met l D dA base d1 y (.ref a :: as') M r M1 := hM
          unfold ab_Met ab_wsM at h9
          rw [hret] at h9
          exact h9
        refine fin _ (va_runI (b := base + a) (As := as'.map (cv base)) (n := n) hcf hM' (cwI (ws' := ab_W) n hts (ab_good ?_) rfl rfl rfl (hW _ (ab_inW_mem o3)) (hW _ (ab_inW_mem o1)) (hW _ (ab_inW_mem o2)) o5 ⟨hyh.1, hyh.2, o4⟩ hrm) ⟨ab_blind, hpre⟩ rfl (by rw [List.length_map, b2, List.append_nil, List.length_reverse]; exact b1) hR.1.1 ?_ (lv_room (okR_cv hok)) (dec1 2 hd rfl) ⟨hc, hs⟩)
        · intro w hw
          exact ab_goodW (y := y) w (by unfold ab_wsM; rw [hret]; exact hw)
        · show st.map (cv base) = _
          rw [b3, List.map_append, ab_map_pop b2]
          rfl
      next => cases h0
    next y' n hl =>
      split at h0
      next as' a r' hp =>
        unfold bCall at h0
        obtain ⟨hok, h2⟩ := if_inv h0
        cases h2
        obtain ⟨b, b1, b2, b3⟩ := popN_spec _ _ _ _ _ hp
        obtain ⟨pl, p1, p2, p3, ho⟩ := lkY_ok hl
        simp only [ab_okY, Bool.and_eq_true, decide_eq_true_eq] at ho
        obtain ⟨o1, o2, o3, o4, o5, -⟩ := ho
        have hret : ab_ret y = none := ab_init_none y (by rw [← hyi]; exact o5)
        have hM' : Met l (ab_yN y) (Cond.code (ab_yN y) (ab_by y) (ab_ml y) none :: ab_W) (ab_rm d1 (mZ M1 - mZ M) (mS M1 - mS M)) (ab_Pre D dA base M (.ref a :: as')) (ab_Post D dA base M1 r) (mZ M1 - mZ M) (mS M1 - mS M) (ab_Fre base) := by
          have h9 : ab_Met l D dA base d1 y (.ref a :: as') M r M1 := hM
          unfold ab_Met ab_wsM at h9
          rw [hret] at h9
          exact h9
        have hnest := hK.2.1 _ (List.mem_of_getElem? o1) rfl
        refine fin _ (va_runIN (b := base + a) (As := as'.map (cv base)) (n := n) hcf hM' ⟨va_cnB (ws' := ab_W) n hts (ab_good ?_) rfl rfl rfl hnest (hW _ (ab_inW_mem o3)) ⟨hyh.1, hyh.2, o4⟩ hrm, o5, hW _ (ab_inW_mem o2)⟩ ⟨ab_blind, hpre⟩ rfl (by rw [List.length_map, b2, List.append_nil, List.length_reverse]; exact b1) hR.1.1 ?_ (lv_room (okR_cv hok)) (dec1 2 hd rfl) ⟨hc, hs⟩)
        · intro w hw
          exact ab_goodW (y := y) w (by unfold ab_wsM; rw [hret]; exact hw)
        · show st.map (cv base) = _
          rw [b3, List.map_append, ab_map_pop b2]
          rfl
      next => cases h0
    next => cases h0
  | invokestatic i =>
    have h0 : bSt pc ls M mi i st = some (.inr (.inr (y, as, rest))) := h
    clear h
    unfold bSt at h0
    split at h0
    next y' n hl =>
      split at h0
      next as' r' hp =>
        unfold bCall at h0
        obtain ⟨hok, h2⟩ := if_inv h0
        cases h2
        obtain ⟨b, b1, b2, b3⟩ := popN_spec _ _ _ _ _ hp
        obtain ⟨pl, p1, p2, p3, ho⟩ := lkY_ok hl
        simp only [ab_okY, Bool.and_eq_true, decide_eq_true_eq] at ho
        obtain ⟨o1, o2, o3, o4, -⟩ := ho
        refine fin _ (va_runS (As := as.map (cv base)) (n := n) hcf hM (va_cwS (ws' := ab_W) n hts (ab_good ?_) rfl rfl rfl ⟨hyh.1, hyh.2, o4⟩ hrm) ⟨ab_blind, hpre⟩ rfl (by rw [List.length_map, b2, List.append_nil, List.length_reverse]; exact b1) hR.1.1 ?_ (lv_room (okR_cv hok)) (dec1 2 hd rfl) ⟨hc, hs⟩)
        · intro w hw
          unfold va_wsS at hw
          rcases List.mem_append.mp hw with h | h
          · simp only [List.mem_cons, List.not_mem_nil, or_false] at h
            rcases h with rfl | rfl | rfl
            · exact ab_inW_mem o1
            · exact ab_inW_mem o2
            · exact ab_inW_mem o3
          · exact ab_goodW w h
        · show st.map (cv base) = _
          rw [b3, List.map_append, ab_map_pop b2]
      next => cases h0
    next y' n hl =>
      split at h0
      next as' r' hp =>
        unfold bCall at h0
        obtain ⟨hok, h2⟩ := if_inv h0
        cases h2
        obtain ⟨b, b1, b2, b3⟩ := popN_spec _ _ _ _ _ hp
        obtain ⟨pl, p1, p2, p3, ho⟩ := lkY_ok hl
        simp only [ab_okY, Bool.and_eq_true, decide_eq_true_eq] at ho
        obtain ⟨o1, o2, o3, o4, -⟩ := ho
        have hnest := hK.2.1 _ (List.mem_of_getElem? o1) rfl
        refine fin _ (va_runSN (As := as.map (cv base)) (n := n) hcf hM ⟨va_cnB (ws' := ab_W) n hts (ab_good ab_goodW) rfl rfl rfl hnest (hW _ (ab_inW_mem o3)) ⟨hyh.1, hyh.2, o4⟩ hrm, hW _ (ab_inW_mem o2), trivial⟩ ⟨ab_blind, hpre⟩ rfl (by rw [List.length_map, b2, List.append_nil, List.length_reverse]; exact b1) hR.1.1 ?_ (lv_room (okR_cv hok)) (dec1 2 hd rfl) ⟨hc, hs⟩)
        show st.map (cv base) = _
        rw [b3, List.map_append, ab_map_pop b2]
      next => cases h0
    next =>
      split at h0
      next => obtain ⟨-, h0⟩ := if_inv h0; cases h0
      next => cases h0
    next =>
      split at h0
      next => obtain ⟨-, h0⟩ := if_inv h0; cases h0
      next => cases h0
    next =>
      split at h0
      next => obtain ⟨-, h0⟩ := if_inv h0; cases h0
      next => cases h0
    next => cases h0
  | _ => exfalso; simp only [stp, qI, qII, qJJ, qT, qL, lvI, lvJ, lvA, bGet, bPut, bIld, qN] at h; (repeat' split at h) <;> cases h
set_option maxHeartbeats 2000000 in
theorem ab_retn {ins : Instr} {r : Option Value} {M1 : ab_M} (hC : ab_Cx p R s m args meth c D dA base mi) (hd : lkC mi pc = some ins) (hR : ab_Rl s D dA base mi ls M H locs lsA) (h : stp mi pc ins ls st M = some (.inr (.inl (r, M1)))) : W p l e R s m args below meth c H locs cells slots (MQ below (ab_Post D dA base M1 r) args s cells slots (ab_Fre base)) (F0 m pc lsA (st.map (cv base))) := by
  obtain ⟨hx, hb, hr, hml, hown, hts, hK, hlocks, hnm, hfr, hlo⟩ := hC
  have hq : ∀ M2, ab_Wd D dA base M2 H → ∀ r2 : Option Value, ∀ t : State, t.heap = H → s.WarmedH t.vm → ab_Post D dA base M2 r2 args s (.returned (r2.map (cv base))) t := fun M2 hw r2 t ht _ => ⟨rfl, by rw [ht]; exact hw, by rw [ht]; exact hR.2.2.2.1, fun q hq => by rw [ht]; exact hR.2.2.2.2.1 q hq⟩
  cases ins with
  | ireturn =>
    simp only [stp] at h
    split at h
    next x =>
      split at h
      next hrt =>
        cases h
        exact W.iret hx hb (hr.trans hrt) (hq M hR.2.2.1 (some (.int x))) hR.2.2.2.2.2 (dec1 0 hd rfl)
      next hrt =>
        obtain ⟨h01, h⟩ := if_inv h
        cases h
        exact W.zret hx hb (hr.trans hrt) (by rcases h01 with rfl | rfl <;> rfl) (hq M hR.2.2.1 (some (.int x))) hR.2.2.2.2.2 (dec1 0 hd rfl)
      next => cases h
    next => cases h
  | lreturn =>
    simp only [stp] at h
    split at h
    next x =>
      split at h
      next hrt =>
        cases h
        exact W.lret hx hb (hr.trans hrt) (hq M hR.2.2.1 (some (.long x))) hR.2.2.2.2.2 (dec1 0 hd rfl)
      next => cases h
    next => cases h
  | areturn =>
    simp only [stp] at h
    split at h
    next x =>
      split at h
      next n hrt =>
        cases h
        exact W.aret hx hb (hr.trans hrt) (Or.inl ⟨_, rfl⟩) (Or.inr ⟨_, rfl⟩) (hq M hR.2.2.1 (some (.ref x))) hR.2.2.2.2.2 (dec1 0 hd rfl)
      next => cases h
    next => cases h
  | return_ =>
    simp only [stp] at h
    split at h
    next =>
      split at h
      next hrt =>
        cases h
        exact W.vret hx hb (hr.trans hrt) (hq M hR.2.2.1 none) hR.2.2.2.2.2 (dec1 0 hd rfl)
      next => cases h
    next => cases h
  | _ => exfalso; simp only [stp, qI, qII, qJJ, qT, qL, lvI, lvJ, lvA, bGet, bPut, bIld, bV, bSp, bSt, bCall, qN] at h; (repeat' split at h) <;> cases h
theorem ab_run {d f0 : Nat} (hcall : ∀ (y : Nat) (as : List Value) (M : ab_M) (r : Option Value) (M' : ab_M), xm d f0 y as M = some (r, M') → ∃ d1, d1 ≤ d ∧ ab_Met l D dA base d1 y as M r M') {r : Option Value} {Mf : ab_M} (hC : ab_Cx p R s m args meth c D dA base mi) (hRf : R.frames = d + 1) (hRl : R.locals = 60 * (d + 1)) : ∀ (f pc : Nat) (ls : ab_L) (st : List Value) (M : ab_M) (H : Heap) (locs : List Loc) (lsA : Array Slot) (cells slots : Nat), xs (xm d f0) mi f pc ls st M = some (r, Mf) → ab_Rl s D dA base mi ls M H locs lsA → cells + mZ Mf = R.cells + mZ M → slots + mS Mf = R.slots + mS M →
    W p l e R s m args below meth c H locs cells slots (MQ below (ab_Post D dA base Mf r) args s R.cells R.slots (ab_Fre base)) (F0 m pc lsA (st.map (cv base))) := by
  have hgc : ∀ y as M r M', xm d f0 y as M = some (r, M') → mZ M ≤ mZ M' ∧ mS M ≤ mS M' := fun y as M r M' h => xm_grow d f0 y as M r M' h
  intro f
  induction f with
  | zero => intro pc ls st M H locs lsA cells slots h; simp [xs] at h
  | succ f ih =>
    intro pc ls st M H locs lsA cells slots h hR hc hs
    unfold xs at h
    cases h1 : lkC mi pc with
    | none => rw [h1] at h; simp at h
    | some ins =>
      rw [h1] at h
      dsimp only at h
      cases h2 : stp mi pc ins ls st M with
      | none => rw [h2] at h; simp at h
      | some q =>
        rw [h2] at h
        rcases q with ⟨pc', ls', st', M'⟩ | ⟨r1, M1⟩ | ⟨y, as, rest⟩
        · have h3 := stp_grow h2
          have h4 := xs_grow hgc mi _ _ _ _ _ _ _ h
          dsimp only at h h3 h4
          refine ab_step hC h1 hR h2 (by dsimp only; omega) (by dsimp only; omega) ?_
          intro H1 locs1 lsA1 cells1 slots1 hR1 e1 e2
          dsimp only at hR1 e1 e2 ⊢
          exact ih _ _ _ _ _ _ _ _ _ h hR1 (by omega) (by omega)
        · dsimp only at h
          cases h
          have h5 : Mf = M := by
            clear ih
            cases ins <;> simp only [stp, qI, qII, qJJ, qT, qL, lvI, lvJ, lvA, bGet, bPut, bIld, bV, bSp, bSt, bCall, qN] at h2 <;> (repeat' split at h2) <;> first | (cases h2; done) | (cases h2; rfl)
          have e1 : cells = R.cells := by rw [h5] at hc; omega
          have e2 : slots = R.slots := by rw [h5] at hs; omega
          rw [← e1, ← e2]
          exact ab_retn hC h1 hR h2
        · dsimp only at h
          cases h3 : xm d f0 y as M with
          | none => rw [h3] at h; simp at h
          | some q =>
            obtain ⟨r1, M1⟩ := q
            rw [h3] at h
            obtain ⟨d1, hd1, hM⟩ := hcall _ _ _ _ _ h3
            have h4 := xs_grow hgc mi _ _ _ _ _ _ _ h
            have h5 := hgc _ _ _ _ _ h3
            refine ab_call hC h1 hR h2 hM (by omega) (by omega) (by omega) (by omega) ?_
            intro H1 locs1 hR1
            exact ih _ _ _ _ _ _ _ _ _ h hR1 (by omega) (by omega)
end ARN
theorem ab_sound (l : Launch) (D : va_G) (dA : Nat → ClassId) (base : Nat) : ∀ (d f y : Nat) (as : List Value) (M : ab_M) (r : Option Value) (M' : ab_M), xm d f y as M = some (r, M') → ∃ d1, d1 ≤ d ∧ ab_Met l D dA base d1 y as M r M' := by
  intro d
  induction d with
  | zero => intro f y as M r M' h; simp [xm] at h
  | succ d ih =>
    intro f y as M r M' h
    unfold xm at h
    by_cases hr : ab_rk y ≤ d
    · rw [if_pos hr] at h
      obtain ⟨d1, h1, h2⟩ := ih _ _ _ _ _ _ h
      exact ⟨d1, by omega, h2⟩
    · rw [if_neg hr] at h
      obtain ⟨hlen, h⟩ := if_inv h
      refine ⟨d + 1, Nat.le_refl _, ?_⟩
      obtain ⟨hcode, hyo, hpl, hyh, hyi, hyl⟩ := ab_facts y
      have hg := xs_grow (fun y as M r M' h => xm_grow d f y as M r M' h) y _ _ _ _ _ _ _ h
      refine va_MetF (cc := ab_by y) (maxL := ab_ml y) (ret := ab_ret y) (ws' := ab_W) hpl rfl ?_
      intro p e s m args below meth c s₁ B hml hv
      obtain ⟨rfl, hWd, hK⟩ := hv
      have hts := atoms_spec (ws := ab_wsM y) B.pre
      have hown : s.vm.findClass (ab_yN y).cls = some m.cls := findClass_of_methodNamed B.named
      have hin : meth.name = (ab_yN y).name := (name_of_methodNamed B.named B.method).1
      rw [lg_entry_eq]
      have hfit : (lg_sl (as.map (cv base))).length ≤ ab_ml y := by
        rw [lg_sl_len]
        unfold padA at hlen
        rw [List.length_append] at hlen
        omega
      have hl := lv_entry (as.map (cv base)) hfit
      refine ab_run (mi := y) (fun y as M r M' h => ih f y as M r M' h) ⟨B.exec, B.bytes, B.returns, hml, by rw [hyo]; exact hown, hts, hK, B.notSynchronized, hin, Nat.le_add_left 1 d, by show 60 ≤ 60 * (d + 1); omega⟩ rfl rfl f 0 _ [] M _ _ _ 0 0 h ⟨lv_mono hl (fun q hq => padA_args as 0 _ q hq), hlen, hWd, ⟨Nat.le_refl _, fun q hq => rfl, fun q hq => by cases hq⟩⟩ ?_ ?_
      · show 0 + mZ M' = (mZ M' - mZ M) + mZ M
        omega
      · show 0 + mS M' = (mS M' - mS M) + mS M
        omega
