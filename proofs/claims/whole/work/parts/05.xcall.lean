/-! A contract out of a stretch; ends; calls with both ends; throwing and catching. -/
def xw_en : List Value → List (Option Value)
  | [] => []
  | v :: t => if v.category = 2 then some v :: none :: xw_en t else some v :: xw_en t
theorem xw_en_mem (G : xw_G) : ∀ (av : List Value) (i0 k : Nat) (v : Value), (xw_en av)[k]? = some (some v) → (i0 + k, xw_tv G v) ∈ lv_args i0 (av.map (xw_tv G)) := by
  intro av
  induction av with
  | nil => intro i0 k v h; simp [xw_en] at h
  | cons u t ih =>
    intro i0 k v h
    simp only [List.map_cons, lv_args, xw_tv_cat]
    by_cases hc : u.category = 2
    · simp only [xw_en, hc, if_true] at h
      rw [if_pos hc]
      match k, h with
      | 0, h =>
        have e : u = v := by simpa using h
        rw [e, Nat.add_zero]
        exact List.mem_cons_self
      | 1, h => simp at h
      | k + 2, h =>
        have h2 := ih (i0 + 2) k v (by simpa using h)
        rw [show i0 + (k + 2) = i0 + 2 + k by omega]
        exact List.mem_cons_of_mem _ h2
    · simp only [xw_en, hc, if_false] at h
      rw [if_neg hc]
      match k, h with
      | 0, h =>
        have e : u = v := by simpa using h
        rw [e, Nat.add_zero]
        exact List.mem_cons_self
      | k + 1, h =>
        have h2 := ih (i0 + 1) k v (by simpa using h)
        rw [show i0 + (k + 1) = i0 + 1 + k by omega]
        exact List.mem_cons_of_mem _ h2
theorem xw_en_len (G : xw_G) (av : List Value) : (lg_sl (av.map (xw_tv G))).length = (xw_en av).length := by
  induction av with
  | nil => rfl
  | cons u t ih =>
    have e : lg_sl ((u :: t).map (xw_tv G)) = (if (xw_tv G u).category = 2 then [Slot.val (xw_tv G u), .second] else [.val (xw_tv G u)]) ++ lg_sl (t.map (xw_tv G)) := by simp [lg_sl]
    rw [e, List.length_append, ih, xw_tv_cat]
    by_cases hc : u.category = 2
    · simp [xw_en, hc]; omega
    · simp [xw_en, hc]; omega
theorem xm_of {κ : Nat → Nat × Nat} {l : Launch} {M : xw_M} {av : List Value} {w : xw_W} {E : xw_O × xw_W} (hl : l.stackTraces = false) (hok : xw_ok M) (hlen : (xw_en av).length ≤ M.2.2.1)
    (k : xw_w κ l M 0 (xw_en av ++ List.replicate (M.2.2.1 - (xw_en av).length) none) [] w E) : xm_m κ l M av w E := by
  refine ⟨k.1, fun G => MetFree.of_bodyS (code := M.2.1) (maxLocals := M.2.2.1) (ret := M.2.2.2.1) hok.2.2.1 ?_ ?_⟩
  · intro args s m h hn
    obtain ⟨meth, c, h1, h2, h3, h4, h5, h6, -⟩ := xw_cw_spec hn (atoms_spec (ws := xw_T) h _ hok.1)
    exact ⟨meth, c, h1, h2, h3, h4, h5, h6⟩
  · intro p e s m args below meth c s₁ B hml hP _
    obtain ⟨rfl, hR⟩ := hP
    have hts := atoms_spec (ws := xw_T) B.pre
    have X₀ := Stand.of_body B
    obtain ⟨meth', c', h1, h2, h3, h4, h5, h6, h7, h8⟩ := xw_cw_spec B.named (hts _ hok.1)
    cases B.method.symm.trans h1
    cases X₀.code.symm.trans h2
    have hh0 : s₁.heap = s.heap := by rw [B.state]; rfl
    have hle : (lg_sl (av.map (xw_tv G))).length ≤ M.2.2.1 := by rw [xw_en_len]; exact hlen
    have hlv := lv_entry (av.map (xw_tv G)) hle
    rw [lg_entry_eq]
    have hLL : xw_L M.2.2.1 G (xw_en av ++ List.replicate (M.2.2.1 - (xw_en av).length) none) ((lg_sl (av.map (xw_tv G)) ++ List.replicate (M.2.2.1 - (lg_sl (av.map (xw_tv G))).length) Slot.unset).toArray) := by
      refine xw_L.sub hlv fun i v hi => ?_
      by_cases hlt : i < (xw_en av).length
      · rw [List.getElem?_append_left hlt] at hi
        have h9 := xw_en_mem G av 0 i v hi
        rwa [Nat.zero_add] at h9
      · rw [List.getElem?_append_right (by omega)] at hi
        have h9 := List.mem_of_getElem? hi
        have h10 := List.eq_of_mem_replicate h9
        cases h10
    obtain ⟨t, a1, o, L, b1, b2, b3, b4, b5, b6, b7⟩ := k.2 G p e _ s m _ below meth c s.heap [] 0 0 _
      ⟨B.exec, h3, h4, h5, h6, findClass_of_methodNamed B.named, (name_of_methodNamed B.named B.method).1, hts, hl, h7, ⟨rfl, rfl⟩, ⟨w, hR⟩⟩ hR hLL (fun q hq => by cases hq)
      (by rw [Nat.zero_add]; exact Nat.le_refl _) (by rw [Nat.zero_add]; exact Nat.le_refl _) s₁ hh0 X₀
    rw [Nat.zero_add, Nat.zero_add] at b6
    exact ⟨t, o, a1, b1, b2, b3, b4, b5, L, b6, b7⟩
section XR
variable {κ : Nat → Nat × Nat} {l : Launch} {M : xw_M} {pc pc' : Nat} {L : List (Option Value)} {S : List Value} {w : xw_W} {E : xw_O × xw_W}
theorem xw_s {S' : List Value} (k : xw_w κ l M pc' L S' w E)
    (h : ∀ (G : xw_G) (p : Program) (e : Env) (R : Room) (s : State) (m : MethodId) (args : Array Value) (below : List Frame) (meth : Method) (c : Code) (H : Heap) (locs : List Loc) (cells slots : Nat) (ls : Array Slot) (Q : State → Prop),
      xw_S κ G l M p R s m args meth c → xw_R κ G w s H → xw_L M.2.2.1 G L ls → W p l e R s m args below meth c H locs cells slots Q (F0 m pc' ls (S'.map (xw_tv G))) → W p l e R s m args below meth c H locs cells slots Q (F0 m pc ls (S.map (xw_tv G)))) :
    xw_w κ l M pc L S w E :=
  ⟨k.1, fun G p e R s m args below meth c H locs cells slots ls hS hR hL hlo hc hs => h G p e R s m args below meth c H locs cells slots ls _ hS hR hL (k.2 G p e R s m args below meth c H locs cells slots ls hS hR hL hlo hc hs)⟩
theorem xw_e {o : xw_O × xw_W} (e : E = o) (k : xw_w κ l M pc L S w o) : xw_w κ l M pc L S w E := e ▸ k
theorem xw_iret {x : Int32} (h : xw_dec M.2.1 pc .ireturn 1 pc') (hr : M.2.2.2.1 = some .int) : xw_w κ l M pc L [.int x] w (.inl (some (.int x)), w) := by
  refine ⟨⟨Nat.le_refl _, Nat.le_refl _⟩, fun G p e R s m args below meth c H locs cells slots ls hS hR hL hlo hc hs => ?_⟩
  intro T hT X
  have hexec := hS.1
  have hb := hS.2.1
  have hdg := h.1
  have hlocks : meth.locks = false := hS.2.2.2.2.1
  have hr' : meth.sig.returnType = some .int := hS.2.2.2.1.trans hr
  obtain ⟨fs, hret, hrun, hended, hW, hframe⟩ := X.leave (v := some (.int x)) (fun h => by rw [hr'] at h; cases h) hlocks
  have hmeth' : T.vm.method? m = some meth := X.method'
  refine ⟨T.setFrames fs, ?_, .returned (some (.int x)), locs, hrun, hended, rfl, ?_, hW, ?_, hlo⟩
  · show Steps p.tables e below (T.setTop (F0 m pc ls [.int x])) _
    jvm_step X.here [X.here.top, hexec, hb, hdg, hmeth', hr', narrow]
    (try refine ⟨rfl, ?_⟩); (try refine ⟨rfl, ?_⟩)
    first | (intro acts; rw [hret _ acts rfl rfl rfl]) | rw [hret _ _ rfl rfl rfl]
    exact Steps.refl _
  · show xw_R κ G w s T.heap
    rw [hT]; exact hR
  · show s.sameButNew _ locs (cells + (w.1 - w.1)) (slots + (w.2.1 - w.2.1))
    rw [Nat.sub_self, Nat.sub_self, Nat.add_zero, Nat.add_zero]
    exact hframe
theorem xw_zret {x : Int32} (h : xw_dec M.2.1 pc .ireturn 1 pc') (hr : M.2.2.2.1 = some .boolean) (hn : x &&& 1 = x) : xw_w κ l M pc L [.int x] w (.inl (some (.int x)), w) := by
  refine ⟨⟨Nat.le_refl _, Nat.le_refl _⟩, fun G p e R s m args below meth c H locs cells slots ls hS hR hL hlo hc hs => ?_⟩
  intro T hT X
  have hexec := hS.1
  have hb := hS.2.1
  have hdg := h.1
  have hlocks : meth.locks = false := hS.2.2.2.2.1
  have hr' : meth.sig.returnType = some .boolean := hS.2.2.2.1.trans hr
  have hn' : narrow .boolean (.int x) = .int x := by show Value.int (x &&& 1) = _; rw [hn]
  obtain ⟨fs, hret, hrun, hended, hW, hframe⟩ := X.leave (v := some (.int x)) (fun h => by rw [hr'] at h; cases h) hlocks
  have hmeth' : T.vm.method? m = some meth := X.method'
  refine ⟨T.setFrames fs, ?_, .returned (some (.int x)), locs, hrun, hended, rfl, ?_, hW, ?_, hlo⟩
  · show Steps p.tables e below (T.setTop (F0 m pc ls [.int x])) _
    jvm_step X.here [X.here.top, hexec, hb, hdg, hmeth', hr', hn']
    (try refine ⟨rfl, ?_⟩); (try refine ⟨rfl, ?_⟩)
    first | (intro acts; rw [hret _ acts rfl rfl rfl]) | rw [hret _ _ rfl rfl rfl]
    exact Steps.refl _
  · show xw_R κ G w s T.heap
    rw [hT]; exact hR
  · show s.sameButNew _ locs (cells + (w.1 - w.1)) (slots + (w.2.1 - w.2.1))
    rw [Nat.sub_self, Nat.sub_self, Nat.add_zero, Nat.add_zero]
    exact hframe
theorem xw_lret {x : Int64} (h : xw_dec M.2.1 pc .lreturn 1 pc') (hr : M.2.2.2.1 = some .long) : xw_w κ l M pc L [.long x] w (.inl (some (.long x)), w) := by
  refine ⟨⟨Nat.le_refl _, Nat.le_refl _⟩, fun G p e R s m args below meth c H locs cells slots ls hS hR hL hlo hc hs => ?_⟩
  intro T hT X
  have hexec := hS.1
  have hb := hS.2.1
  have hdg := h.1
  have hlocks : meth.locks = false := hS.2.2.2.2.1
  have hr' : meth.sig.returnType = some .long := hS.2.2.2.1.trans hr
  obtain ⟨fs, hret, hrun, hended, hW, hframe⟩ := X.leave (v := some (.long x)) (fun h => by rw [hr'] at h; cases h) hlocks
  have hmeth' : T.vm.method? m = some meth := X.method'
  refine ⟨T.setFrames fs, ?_, .returned (some (.long x)), locs, hrun, hended, rfl, ?_, hW, ?_, hlo⟩
  · show Steps p.tables e below (T.setTop (F0 m pc ls [.long x])) _
    jvm_step X.here [X.here.top, hexec, hb, hdg, hmeth', hr', narrow]
    (try refine ⟨rfl, ?_⟩); (try refine ⟨rfl, ?_⟩)
    first | (intro acts; rw [hret _ acts rfl rfl rfl]) | rw [hret _ _ rfl rfl rfl]
    exact Steps.refl _
  · show xw_R κ G w s T.heap
    rw [hT]; exact hR
  · show s.sameButNew _ locs (cells + (w.1 - w.1)) (slots + (w.2.1 - w.2.1))
    rw [Nat.sub_self, Nat.sub_self, Nat.add_zero, Nat.add_zero]
    exact hframe
theorem xw_aret {i : Nat} {C : String} (h : xw_dec M.2.1 pc .areturn 1 pc') (hr : M.2.2.2.1 = some (.object C)) : xw_w κ l M pc L [.ref i] w (.inl (some (.ref i)), w) := by
  refine ⟨⟨Nat.le_refl _, Nat.le_refl _⟩, fun G p e R s m args below meth c H locs cells slots ls hS hR hL hlo hc hs => ?_⟩
  intro T hT X
  have hexec := hS.1
  have hb := hS.2.1
  have hdg := h.1
  have hlocks : meth.locks = false := hS.2.2.2.2.1
  have hr' : meth.sig.returnType = some (.object C) := hS.2.2.2.1.trans hr
  obtain ⟨fs, hret, hrun, hended, hW, hframe⟩ := X.leave (v := some (.ref (xw_ad G i))) (fun h => by rw [hr'] at h; cases h) hlocks
  have hmeth' : T.vm.method? m = some meth := X.method'
  refine ⟨T.setFrames fs, ?_, .returned (some (.ref (xw_ad G i))), locs, hrun, hended, rfl, ?_, hW, ?_, hlo⟩
  · show Steps p.tables e below (T.setTop (F0 m pc ls [.ref (xw_ad G i)])) _
    jvm_step X.here [X.here.top, hexec, hb, hdg, hmeth', hr']
    (try refine ⟨rfl, ?_⟩); (try refine ⟨rfl, ?_⟩)
    first | (intro acts; rw [hret _ acts rfl rfl rfl]) | rw [hret _ _ rfl rfl rfl]
    exact Steps.refl _
  · show xw_R κ G w s T.heap
    rw [hT]; exact hR
  · show s.sameButNew _ locs (cells + (w.1 - w.1)) (slots + (w.2.1 - w.2.1))
    rw [Nat.sub_self, Nat.sub_self, Nat.add_zero, Nat.add_zero]
    exact hframe
theorem xw_vret (h : xw_dec M.2.1 pc .return_ 1 pc') (hr : M.2.2.2.1 = none) : xw_w κ l M pc L [] w (.inl none, w) := by
  refine ⟨⟨Nat.le_refl _, Nat.le_refl _⟩, fun G p e R s m args below meth c H locs cells slots ls hS hR hL hlo hc hs => ?_⟩
  intro T hT X
  have hexec := hS.1
  have hb := hS.2.1
  have hdg := h.1
  have hlocks : meth.locks = false := hS.2.2.2.2.1
  have hr' : meth.sig.returnType = none := hS.2.2.2.1.trans hr
  obtain ⟨fs, hret, hrun, hended, hW, hframe⟩ := X.leave (v := none) (fun _ => rfl) hlocks
  have hmeth' : T.vm.method? m = some meth := X.method'
  refine ⟨T.setFrames fs, ?_, .returned none, locs, hrun, hended, rfl, ?_, hW, ?_, hlo⟩
  · show Steps p.tables e below (T.setTop (F0 m pc ls [])) _
    jvm_step X.here [X.here.top, hexec, hb, hdg, hmeth', hr']
    (try refine ⟨rfl, ?_⟩); (try refine ⟨rfl, ?_⟩)
    first | (intro acts; rw [hret _ acts rfl rfl rfl]) | rw [hret _ _ rfl rfl rfl]
    exact Steps.refl _
  · show xw_R κ G w s T.heap
    rw [hT]; exact hR
  · show s.sameButNew _ locs (cells + (w.1 - w.1)) (slots + (w.2.1 - w.2.1))
    rw [Nat.sub_self, Nat.sub_self, Nat.add_zero, Nat.add_zero]
    exact hframe
end XR
set_option maxHeartbeats 1000000 in
/-- a call by its contract: it comes back, or the note of the exception lies over the caller's frame -/
theorem xw_back {κ : Nat → Nat × Nat} {l : Launch} {M' : xw_M} {As : List Value} {w : xw_W} {E1 : xw_O × xw_W} {G : xw_G} {p : Program} {e : Env} {R : Room} {s : State} {m : MethodId} {args : Array Value} {below : List Frame} {meth : Method} {c : Code} {U : State} {locs : List Loc} {cells slots : Nat}
    (hM : xm_m κ l M' As w E1) (hok : xw_ok M') (X : Stand p l e R s m args below meth c U locs cells slots) (hts : ∀ w ∈ xw_T, w.before args s = true)
    {g : JFrame} (hg : g.method = m) (hsize : g.locals.size = c.maxLocals) {ig : Instr} {len : Nat} (hdg : decode c.code g.pc = .ok (ig, len))
    (hfr : M'.2.2.2.2.2.1 + 1 ≤ R.frames) (hlo : 2 * g.monitorRoom + (g.stack.map fun v => v.category).sum + (M'.2.2.1 + 11) + M'.2.2.2.2.2.2 ≤ R.locals)
    (hc : cells + (E1.2.1 - w.1) ≤ R.cells) (hs : slots + (E1.2.2.1 - w.2.1) ≤ R.slots) {mk : MethodId} (hn : U.methodNamed? M'.1 = some mk) (hR : xw_R κ G w s U.heap) :
    ∃ (L : List Loc) (T' : State), Stand p l e R s m args below meth c T' (locs ++ L) (cells + (E1.2.1 - w.1)) (slots + (E1.2.2.1 - w.2.1)) ∧ xw_lc G L ∧ xw_R κ G E1.2 s T'.heap ∧
      (∀ v, E1.1 = .inl v → Steps p.tables e below (doInvoke e (U.setTop g) [] mk ((As.map (xw_tv G)).toArray)).1 (T'.setTop { g with pc := g.pc + len, stack := (v.map (xw_tv G)).toList ++ g.stack })) ∧
      (∀ i, E1.1 = .inr i → Steps p.tables e below (doInvoke e (U.setTop g) [] mk ((As.map (xw_tv G)).toArray)).1 ((T'.setTop g).pushFrame (.throwing (xw_ad G i)))) := by
  generalize ha : (As.map (xw_tv G)).toArray = a
  have htU : ∀ w ∈ xw_T, w.before a U = true := xw_Tmove X.warmed hts
  obtain ⟨methY, cY, hmY, hcY, -, hlY, -⟩ := xw_cw_spec hn (htU _ hok.1)
  obtain ⟨kY, hkY, -⟩ := className_of_methodNamed hn
  have hinitY : kY.init = .initialized := Cond.initialized_spec (findClass_of_methodNamed hn) hkY (htU _ hok.2.1)
  have h : At U g.method c below := by rw [hg]; exact X.here
  have happ : (headSpec xw_T { frames := M'.2.2.2.2.2.1, cells := E1.2.1 - w.1, slots := E1.2.2.1 - w.2.1, locals := M'.2.2.2.2.2.2 }).appliesLoose M'.1 e.platform (U.calling g mk a) = true :=
    Spec.appliesLoose_calling (g := g) h hdg hn hkY hinitY
      (X.room_calling (g := g) (R' := { frames := M'.2.2.2.2.2.1, cells := E1.2.1 - w.1, slots := E1.2.2.1 - w.2.1, locals := M'.2.2.2.2.2.2 }) hsize hmY hcY hfr (by rw [hlY]; exact hlo) hc hs) (atoms_intro htU)
  obtain ⟨mid, hmid⟩ := h.above
  have hfrs : (U.setTop g).frames = (.java g :: mid) ++ below := by rw [State.frames_setTop' g h.top, hmid]; rfl
  have hRU : xw_R κ G w U U.heap := hR.moved X.warmed.alike
  have hRc : xw_R κ G w (U.calling g mk a) (U.calling g mk a).heap := xw_R.moved (u := U) (U := U.calling g mk a) (Vm.Alike.refl U.vm) hRU
  obtain ⟨o, s₂, hsteps, -, hend, hq⟩ := Steps.callFree (hM.2 G) p X.admits X.cas X.clock (acts := []) hfrs happ ⟨ha.symm, hRc⟩ trivial
  rw [State.frames_setTop' g h.top] at hend
  obtain ⟨ho, hR2, hW₂, L, ⟨e2, q2, q3, q4, q5, q6⟩, hL⟩ := hq
  have hR2 : xw_R κ G E1.2 (U.calling g mk a) s₂.heap := hR2
  have e2 : ({ s₂ with vm := (U.calling g mk a).vm } : State) = { (U.calling g mk a).setFrames s₂.frames with heap := s₂.heap, slotsUsed := s₂.slotsUsed } := e2
  have e3 : s₂ = ({ (U.calling g mk a).setFrames s₂.frames with heap := s₂.heap, slotsUsed := s₂.slotsUsed } : State).setVm s₂.vm := by
    have : s₂ = ({ s₂ with vm := (U.calling g mk a).vm } : State).setVm s₂.vm := rfl
    rw [e2] at this
    exact this
  have hW' : U.WarmedH s₂.vm := hW₂
  obtain ⟨g₀, hg0⟩ := Option.isSome_iff_exists.mp h.top
  obtain ⟨r, hr⟩ := State.topJava?_eq_some.mp hg0
  have hsame : U.sameButNew ({ U with heap := s₂.heap, slotsUsed := s₂.slotsUsed } : State) L (E1.2.1 - w.1) (E1.2.2.1 - w.2.1) := by
    refine ⟨?_, q2, q3, q4, q5, q6⟩
    obtain ⟨t, ht, -⟩ := State.frames_cons hr
    show ({ U with heap := s₂.heap, slotsUsed := s₂.slotsUsed } : State) = { U.setFrames U.frames with heap := s₂.heap, slotsUsed := s₂.slotsUsed }
    rw [State.setFrames_self ht]
  have hr' : (({ U with heap := s₂.heap, slotsUsed := s₂.slotsUsed } : State).setVm s₂.vm).frames = .java g₀ :: r := hr
  refine ⟨L, ({ U with heap := s₂.heap, slotsUsed := s₂.slotsUsed } : State).setVm s₂.vm,
    ⟨X.admits, X.cas, X.clock, X.frames, X.room, X.hears, X.method, X.code, (X.here.setHeapUsed s₂.heap s₂.slotsUsed).setVm hW'.alike, X.tail, State.WarmedH.trans X.warmed hW', X.limits, X.bytes, X.same.trans (hsame.setVm s.vm)⟩,
    hL, xw_R.moved (u := U.calling g mk a) (U := s) X.warmed.alike.symm hR2, fun v hv => ?_, fun i hi => ?_⟩
  · rw [hv] at ho
    subst ho
    obtain ⟨c₂, i₂, len₂, hc₂, hd₂, hf₂⟩ := hend
    have hcc : c₂ = c := by
      have h1 : s₂.code? g.method = U.code? g.method := by
        rw [State.code?_eq, State.code?_eq, hW'.alike.method?]
      exact Option.some.inj (hc₂.symm.trans (h1.trans h.code))
    subst hcc
    have hlen : len₂ = len := by rw [hdg] at hd₂; cases hd₂; rfl
    subst hlen
    have hs₂ : s₂ = (({ U with heap := s₂.heap, slotsUsed := s₂.slotsUsed } : State).setVm s₂.vm).setTop { g with pc := g.pc + len₂, stack := (v.map (xw_tv G)).toList ++ g.stack } := by
      refine e3.trans ?_
      rw [hf₂, State.calling_eq h.top, State.setFrames_setFrames, State.setTop_of_frames _ hr', hr]
      rfl
    rw [← hs₂]
    exact hsteps
  · rw [hi] at ho
    subst ho
    have hend : s₂.frames = .throwing (xw_ad G i) :: .java g :: U.frames.tail := hend
    have hpush : ((({ U with heap := s₂.heap, slotsUsed := s₂.slotsUsed } : State).setVm s₂.vm).setTop g).pushFrame (.throwing (xw_ad G i)) = (({ U with heap := s₂.heap, slotsUsed := s₂.slotsUsed } : State).setVm s₂.vm).setFrames (.throwing (xw_ad G i) :: .java g :: r) := by
      rw [State.pushFrame, State.frames_setTop _ hr', State.setTop_of_frames _ hr', State.setFrames_setFrames]
    have hs₂ : s₂ = (({ U with heap := s₂.heap, slotsUsed := s₂.slotsUsed } : State).setVm s₂.vm).setFrames (.throwing (xw_ad G i) :: .java g :: r) := by
      refine e3.trans ?_
      rw [hend, State.calling_eq h.top, State.setFrames_setFrames, hr]
      rfl
    rw [hpush, ← hs₂]
    exact hsteps
