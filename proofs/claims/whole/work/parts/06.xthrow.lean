/-! Calls: the linking, the two ends; a handler of the method's own. -/
/-- the linking of a call: it goes to M' with As -/
def xw_lk (κ : Nat → Nat × Nat) (l : Launch) (M M' : xw_M) (pc : Nat) (w : xw_W) (S rest As : List Value) : Prop :=
  ∀ (G : xw_G) (p : Program) (e : Env) (R : Room) (s : State) (m : MethodId) (args : Array Value) (below : List Frame) (meth : Method) (c : Code) (T : State) (locs : List Loc) (cells slots : Nat) (ls : Array Slot),
    xw_S κ G l M p R s m args meth c → xw_R κ G w s T.heap → Stand p l e R s m args below meth c T locs cells slots →
    ∃ (vm₁ : Vm) (mk : MethodId), Stand p l e R s m args below meth c (T.setVm vm₁) locs cells slots ∧ (T.setVm vm₁).methodNamed? M'.1 = some mk ∧
      ∀ target, (∀ acts, Steps p.tables e below (doInvoke e ((T.setVm vm₁).setTop (F0 m pc ls (rest.map (xw_tv G)))) acts mk ((As.map (xw_tv G)).toArray)).1 target) → Steps p.tables e below (T.setTop (F0 m pc ls (S.map (xw_tv G)))) target
/-- an exception, cell i, is under way at pc -/
def xw_t (κ : Nat → Nat × Nat) (l : Launch) (M : xw_M) (pc : Nat) (L : List (Option Value)) (rest : List Value) (i : Nat) (w : xw_W) (E : xw_O × xw_W) : Prop :=
  (w.1 ≤ E.2.1 ∧ w.2.1 ≤ E.2.2.1) ∧
  ∀ (G : xw_G) (p : Program) (e : Env) (R : Room) (s : State) (m : MethodId) (args : Array Value) (below : List Frame) (meth : Method) (c : Code) (T : State) (locs : List Loc) (cells slots : Nat) (ls : Array Slot),
    xw_S κ G l M p R s m args meth c → xw_R κ G w s T.heap → xw_L M.2.2.1 G L ls → xw_lc G locs → cells + (E.2.1 - w.1) ≤ R.cells → slots + (E.2.2.1 - w.2.1) ≤ R.slots → Stand p l e R s m args below meth c T locs cells slots →
    ∃ t, Steps p.tables e below ((T.setTop (F0 m pc ls (rest.map (xw_tv G)))).pushFrame (.throwing (xw_ad G i))) t ∧ xw_Q κ G below s E (cells + (E.2.1 - w.1)) (slots + (E.2.2.1 - w.2.1)) t
section XC
variable {κ : Nat → Nat × Nat} {l : Launch} {M M' : xw_M} {pc pc' : Nat} {L : List (Option Value)} {S rest As : List Value} {w : xw_W} {E E1 : xw_O × xw_W}
set_option maxHeartbeats 1000000 in
theorem xw_core {ig : Instr} {len : Nat} (hdec : decode M.2.1 pc = .ok (ig, len)) (hlk : xw_lk κ l M M' pc w S rest As) (hok : xw_ok M') (hM : xm_m κ l M' As w E1)
    (hroom : M'.2.2.2.2.2.1 + 1 ≤ M.2.2.2.2.2.1 ∧ (rest.map fun v => v.category).sum + (M'.2.2.1 + 11) + M'.2.2.2.2.2.2 ≤ M.2.2.2.2.2.2)
    (k1 : ∀ v, E1.1 = .inl v → xw_w κ l M (pc + len) L (v.toList ++ rest) E1.2 E) (k2 : ∀ i, E1.1 = .inr i → xw_t κ l M pc L rest i E1.2 E) : xw_w κ l M pc L S w E := by
  have hm : E1.2.1 ≤ E.2.1 ∧ E1.2.2.1 ≤ E.2.2.1 := by
    cases hE : E1.1 with
    | inl v => exact (k1 v hE).1
    | inr i => exact (k2 i hE).1
  have hm1 := hM.1
  refine ⟨⟨Nat.le_trans hm1.1 hm.1, Nat.le_trans hm1.2 hm.2⟩, fun G p e R s m args below meth c H locs cells slots ls hS hR hL hlo hc hs => ?_⟩
  intro T hT X
  subst hT
  obtain ⟨hexec, hb, hmx, hrt, hlk0, hown, hnm, hts, htr, htab, ⟨hRf, hRl⟩, hw0⟩ := id hS
  obtain ⟨vm₁, mk, X₁, hn, hst⟩ := hlk G p e R s m args below meth c T locs cells slots ls hS hR X
  obtain ⟨L1, T', X', hL1, hR', h1, h2⟩ := xw_back (G := G) (g := F0 m pc ls (rest.map (xw_tv G))) hM hok X₁ hts rfl (hL.1.trans hmx.symm) (ig := ig) (len := len) (by rw [hb]; exact hdec) (by rw [hRf]; exact hroom.1)
    (by
      show 2 * 0 + ((rest.map (xw_tv G)).map fun v => v.category).sum + (M'.2.2.1 + 11) + M'.2.2.2.2.2.2 ≤ R.locals
      rw [xw_tv_sum, hRl]
      have := hroom.2
      omega) (by omega) (by omega) hn hR
  have e1 : cells + (E1.2.1 - w.1) + (E.2.1 - E1.2.1) = cells + (E.2.1 - w.1) := by omega
  have e2 : slots + (E1.2.2.1 - w.2.1) + (E.2.2.1 - E1.2.2.1) = slots + (E.2.2.1 - w.2.1) := by omega
  have hlo' : xw_lc G (locs ++ L1) := fun q hq => by
    rcases List.mem_append.mp hq with h | h
    · exact hlo q h
    · exact hL1 q h
  cases hE : E1.1 with
  | inl v =>
    obtain ⟨t, a1, b1⟩ := (k1 v hE).2 G p e R s m args below meth c T'.heap (locs ++ L1) (cells + (E1.2.1 - w.1)) (slots + (E1.2.2.1 - w.2.1)) ls hS hR' hL hlo' (by rw [e1]; exact hc) (by rw [e2]; exact hs) T' rfl X'
    rw [e1, e2] at b1
    refine ⟨t, hst t (fun acts => ?_), b1⟩
    rw [doInvoke_state]
    refine (h1 v hE).trans ?_
    have e3 : (v.toList ++ rest).map (xw_tv G) = (v.map (xw_tv G)).toList ++ rest.map (xw_tv G) := by cases v <;> rfl
    rw [e3] at a1
    exact a1
  | inr i =>
    obtain ⟨t, a1, b1⟩ := (k2 i hE).2 G p e R s m args below meth c T' (locs ++ L1) (cells + (E1.2.1 - w.1)) (slots + (E1.2.2.1 - w.2.1)) ls hS hR' hL hlo' (by rw [e1]; exact hc) (by rw [e2]; exact hs) X'
    rw [e1, e2] at b1
    refine ⟨t, hst t (fun acts => ?_), b1⟩
    rw [doInvoke_state]
    exact (h2 i hE).trans a1
/-- no handler covers pc: it leaves -/
theorem xw_tl {i : Nat} (hout : M.2.2.2.2.1.all (fun x => !(decide (x.1 ≤ pc) && decide (pc < x.2.1))) = true) : xw_t κ l M pc L rest i w (.inr i, w) := by
  refine ⟨⟨Nat.le_refl _, Nat.le_refl _⟩, fun G p e R s m args below meth c T locs cells slots ls hS hR hL hlo hc hs X => ?_⟩
  obtain ⟨hexec, hb, hmx, hrt, hlk0, hown, hnm, hts, htr, htab, hRr, hw0⟩ := id hS
  have hout' : ∀ x ∈ c.exceptionTable.toList, covers x pc = false := by
    intro x hx
    have h1 : (x.startPc, x.endPc, x.handlerPc, x.catchType) ∈ M.2.2.2.2.1 := by
      rw [← htab]
      exact List.mem_map.mpr ⟨x, hx, rfl⟩
    have h2 := List.all_eq_true.mp hout _ h1
    cases h3 : covers x pc with
    | false => rfl
    | true =>
      simp only [covers] at h3
      rw [h3] at h2
      cases h2
  obtain ⟨a1, a2, a3, a4, a5⟩ := X.leaveThrown (xw_ad G i) (g := F0 m pc ls (rest.map (xw_tv G))) rfl rfl rfl hout' hlk0
  refine ⟨_, a1, .threw (xw_ad G i), locs, a2, a3, rfl, hR, a4, ?_, hlo⟩
  show s.sameButNew _ locs (cells + (w.1 - w.1)) (slots + (w.2.1 - w.2.1))
  rw [Nat.sub_self, Nat.sub_self, Nat.add_zero, Nat.add_zero]
  exact a5
end XC
section XH
variable {e : Env} {u : State} {f : JFrame} {a : Addr} {x : ExceptionTableEntry} {cT : ClassId} {cell : Cell}
/-- the search through a table of one entry, whose class's entry in the pool is open or resolved -/
theorem xc_go (hx : covers x f.pc = true) (h0 : x.catchType ≠ 0) (hl : u.vm.ClassLinks e.platform f.method.cls x.catchType cT) (hcell : u.heap[a]? = some cell) (hobj : ∀ k, cell.vm ≠ .statics k)
    (hk : ∃ k, u.vm.classes[cell.cls]? = some k) (hc : ∃ k, u.vm.classes[cT]? = some k) (hfit : u.vm.assignable cell.cls cT = true) (Q : Handler → Pre) (E : CtlPost) (d : Bool) (acts : List Action) :
    wp (findHandler.go f a [x]) Q E e d acts u ↔ Q (.found x.handlerPc) d acts (u.setVm (u.vm.noted f.method.cls x.catchType (.cls cT))) := by
  have hal : u.vm.Alike (u.vm.noted f.method.cls x.catchType (.cls cT)) := (Vm.Alike.refl u.vm).noted _ _ _
  obtain ⟨r1, r2⟩ := (resolveClass_links e.toSetting hl).op (op := VmOp.resolveClass f.method.cls x.catchType) rfl
  obtain ⟨c1, hc1⟩ := hk
  obtain ⟨c2, hc2⟩ := hc
  obtain ⟨d1, hd1, -⟩ := hal.2.2 _ _ hc1
  obtain ⟨d2, hd2, -⟩ := hal.2.2 _ _ hc2
  have hfit2 : (u.vm.noted f.method.cls x.catchType (.cls cT)).assignable cell.cls cT = true := by rw [hal.assignable]; exact hfit
  have hx2 : (decide (x.startPc ≤ f.pc) && decide (f.pc < x.endPc)) = true := hx
  simp [findHandler.go, hx2, h0, r1, r2, hcell, hobj, hd1, hd2, hfit2, VmOp.dirties, VmOp.acts]
theorem xc_step {r : List Frame} {meth : Method} {code : Code} (hm : u.vm.method? f.method = some meth) (hcd : meth.code = some code) (hone : code.exceptionTable.toList = [x]) (hx : covers x f.pc = true) (h0 : x.catchType ≠ 0) (hl : u.vm.ClassLinks e.platform f.method.cls x.catchType cT) (hcell : u.heap[a]? = some cell) (hobj : ∀ k, cell.vm ≠ .statics k)
    (hk : ∃ k, u.vm.classes[cell.cls]? = some k) (hc : ∃ k, u.vm.classes[cT]? = some k) (hfit : u.vm.assignable cell.cls cT = true) :
    (stepThrowing e u a (.java f :: r)).1 = (u.setVm (u.vm.noted f.method.cls x.catchType (.cls cT))).setFrames (.java { f with pc := x.handlerPc, stack := [.ref a] } :: r) := by
  have hfind : ∀ (Q : Handler → Pre) (E : CtlPost) (d : Bool) (acts : List Action), wp (findHandler f a) Q E e d acts u ↔ Q (.found x.handlerPc) d acts (u.setVm (u.vm.noted f.method.cls x.catchType (.cls cT))) := by
    intro Q E d acts
    rw [Jvm.W.findHandler_eq hm hcd, hone]
    exact xc_go hx h0 hl hcell hobj hk hc hfit Q E d acts
  simp only [stepThrowing, searchFrame, vmDo]
  generalize hr : Sem.go _ e false [] u = res
  obtain ⟨as, rfl, ha⟩ := Sem.eq_ok_of hr (a := Handler.found x.handlerPc) (s' := u.setVm (u.vm.noted f.method.cls x.catchType (.cls cT))) (acts' := []) (by simp [hfind _ _ _ _])
  rfl
end XH
section XD
variable {κ : Nat → Nat × Nat} {l : Launch} {M : xw_M} {pc : Nat} {L : List (Option Value)} {rest : List Value} {w : xw_W} {E : xw_O × xw_W}
set_option maxHeartbeats 1000000 in
/-- the method's one handler covers pc: it goes on there -/
theorem xw_tc {i p0 p1 hp ct : Nat} (hh : M.2.2.2.2.1 = [(p0, p1, hp, ct)]) (hcov : p0 ≤ pc ∧ pc < p1) (hct : ct ≠ 0) (hlink : Cond.classLink M.1.cls ct "java/lang/IllegalStateException" ∈ xw_T) (hcast : Cond.castable "java/lang/IllegalStateException" "java/lang/IllegalStateException" ∈ xw_T)
    (hi : i < w.1) (hκ : 4 ≤ (κ i).1) (k : xw_w κ l M hp L [.ref i] w E) : xw_t κ l M pc L rest i w E := by
  refine ⟨k.1, fun G p e R s m args below meth c T locs cells slots ls hS hR hL hlo hc hs X => ?_⟩
  obtain ⟨hexec, hb, hmx, hrt, hlk0, hown, hnm, hts, htr, htab, hRr, hw0⟩ := id hS
  obtain ⟨cell, hcell, hcls, hvm⟩ := (hR.1 i hi).2.2.2.2 hκ
  have hpl : e.platform.magicAccessors = ({} : Platform).magicAccessors := by rw [X.admits.platform]
  obtain ⟨x, hx1, hx2⟩ : ∃ x : ExceptionTableEntry, c.exceptionTable.toList = [x] ∧ (x.startPc, x.endPc, x.handlerPc, x.catchType) = (p0, p1, hp, ct) := by
    rw [hh] at htab
    cases hx : c.exceptionTable.toList with
    | nil => rw [hx] at htab; cases htab
    | cons y t =>
      rw [hx] at htab
      cases t with
      | nil => exact ⟨y, rfl, by simpa using htab⟩
      | cons z t => simp at htab
  obtain ⟨y1, y2, y3, y4⟩ : x.startPc = p0 ∧ x.endPc = p1 ∧ x.handlerPc = hp ∧ x.catchType = ct := by simpa using hx2
  obtain ⟨cT, hcT, hcl⟩ := Cond.classLink_spec hown (hts _ hlink) e.platform hpl
  rw [← y4] at hcl hct
  obtain ⟨dk, _, _, kt, hd, _, _, _, _, hkt, _, hopen⟩ := hcl.here
  have hW' : s.WarmedH (T.vm.noted m.cls x.catchType (.cls cT)) := X.warmed.noted hd hopen (State.rightAt_cls hcl)
  obtain ⟨kt', hkt', -⟩ := X.warmed.alike.2.2 _ _ hkt
  have hcE : G.2.1.2.2 = cT := Option.some.inj (hR.2.2.2.2.2.symm.trans hcT)
  obtain ⟨c3, c4, hc3, hc4, hasg⟩ := Cond.castable_spec (hts _ hcast)
  cases Option.some.inj (hc3.symm.trans hcT)
  cases Option.some.inj (hc4.symm.trans hcT)
  have hfit : T.vm.assignable cell.cls cT = true := by rw [X.warmed.alike.assignable, hcls, hcE]; exact hasg
  have X' := X.noted hW'
  obtain ⟨t, a1, b1⟩ := k.2 G p e R s m args below meth c T.heap locs cells slots ls hS hR hL hlo hc hs (T.setVm (T.vm.noted m.cls x.catchType (.cls cT))) rfl X'
  refine ⟨t, ?_, b1⟩
  obtain ⟨g₀, hg0⟩ := Option.isSome_iff_exists.mp X.here.top
  obtain ⟨r, hr⟩ := State.topJava?_eq_some.mp hg0
  have hAt : At T (F0 m pc ls (rest.map (xw_tv G))).method c below := X.here
  obtain ⟨hgo, hwi⟩ := hAt.throwing (xw_ad G i)
  refine Steps.head hgo hwi ?_
  have hpush : (T.setTop (F0 m pc ls (rest.map (xw_tv G)))).pushFrame (.throwing (xw_ad G i)) = T.setFrames (.throwing (xw_ad G i) :: .java (F0 m pc ls (rest.map (xw_tv G))) :: r) := by
    rw [State.pushFrame, State.frames_setTop _ hr, State.setTop_of_frames _ hr, State.setFrames_setFrames]
  have hcurT : T.cur < T.threads.size := State.cur_lt_of_frames hr
  rw [hpush, stepThread_throwing (State.frames_setFrames _ hcurT),
    xc_step (u := T.setFrames (.throwing (xw_ad G i) :: .java (F0 m pc ls (rest.map (xw_tv G))) :: r)) (f := F0 m pc ls (rest.map (xw_tv G))) (a := xw_ad G i) (x := x) (cT := cT) (cell := cell) (r := r) (meth := meth) (code := c) X.method' X.code hx1
      (by simp only [covers, y1, y2]; simp [hcov]) hct (X.warmed.classLinks hcl) hcell (VmData.ne_statics_of (by rw [hvm]; rfl)) (Vm.classAt_of_assignable hfit ⟨kt', hkt'⟩) ⟨kt', hkt'⟩ hfit]
  have hr2 : (T.setVm (T.vm.noted m.cls x.catchType (.cls cT))).frames = .java g₀ :: r := hr
  rw [State.setTop_of_frames _ hr2] at a1
  have e1 : ((T.setFrames (.throwing (xw_ad G i) :: .java (F0 m pc ls (rest.map (xw_tv G))) :: r)).setVm (T.vm.noted m.cls x.catchType (.cls cT))).setFrames (.java { (F0 m pc ls (rest.map (xw_tv G))) with pc := x.handlerPc, stack := [.ref (xw_ad G i)] } :: r) = (T.setVm (T.vm.noted m.cls x.catchType (.cls cT))).setFrames (.java (F0 m hp ls [.ref (xw_ad G i)]) :: r) := by
    have e0 : (T.setFrames (.throwing (xw_ad G i) :: .java (F0 m pc ls (rest.map (xw_tv G))) :: r)).setVm (T.vm.noted m.cls x.catchType (.cls cT)) = (T.setVm (T.vm.noted m.cls x.catchType (.cls cT))).setFrames (.throwing (xw_ad G i) :: .java (F0 m pc ls (rest.map (xw_tv G))) :: r) := rfl
    rw [e0, State.setFrames_setFrames, y3]
  show Steps p.tables e below (((T.setFrames (.throwing (xw_ad G i) :: .java (F0 m pc ls (rest.map (xw_tv G))) :: r)).setVm (T.vm.noted m.cls x.catchType (.cls cT))).setFrames (.java { (F0 m pc ls (rest.map (xw_tv G))) with pc := x.handlerPc, stack := [.ref (xw_ad G i)] } :: r)) t
  rw [e1]
  exact a1
end XD
section XK
variable {κ : Nat → Nat × Nat} {l : Launch} {M M' : xw_M} {pc : Nat} {rest As : List Value} {w : xw_W}
theorem xw_lkV {idx b : Nat} {q : vw_C} (h : decode M.2.1 pc = .ok (.invokevirtual idx, 3)) (hl : Cond.methodLink M.1.cls idx M'.1 ∈ xw_T) (hin : Cond.instanceMethod M'.1 ∈ xw_T) (hse : Cond.selects M'.1.cls M'.1 M'.1 ∈ xw_T) (hok : xw_ok M')
    (hn : (parseMethodDescriptor M'.1.desc).map (fun d => d.parameters.length) = some As.length) (hb : b < w.1) (hκ : (κ b).1 = 0) (hq : vwCl[(κ b).2]? = some q) (hqn : q.1 = M'.1.cls) :
    xw_lk κ l M M' pc w (As.reverse ++ .ref b :: rest) rest (.ref b :: As) := by
  intro G p e R s m args below meth c T locs cells slots ls hS hR X
  obtain ⟨hexec, hbc, hmx, hrt, hlk0, hown, hnm, hts, htr, htab, hRr, hw0⟩ := id hS
  obtain ⟨mk, methM, hnamed, hmethM, hstM, habM⟩ := Cond.instanceMethod_spec (hts _ hin)
  obtain ⟨methM', cM, hmethM', -, -, -, -, -, -, hsigM⟩ := xw_cw_spec hnamed (hts _ hok.1)
  cases hmethM.symm.trans hmethM'
  obtain ⟨q', hq', cell, g1, g2, g3, -⟩ := (hR.1 b hb).1 hκ
  cases hq.symm.trans hq'
  have hcls : s.vm.findClass M'.1.cls = some cell.cls := by rw [g2, ← hqn]; exact (hR.2.2.2.2.1.1 _ q hq).2.1
  obtain ⟨c2, r2, m2, q1, q2, q3, q4, kP, hkP, hkPi⟩ := Cond.selects_spec (hts _ hse)
  cases hcls.symm.trans q1
  cases (State.methodFound?_of_named hnamed hok.2.2.2).symm.trans q2
  cases hnamed.symm.trans q3
  have hselP : selectMethod e.platform s.vm cell.cls mk = .method mk := by rw [Launch.admits_selectMethod X.admits]; exact q4
  obtain ⟨vm₁, X₁, hstep₁⟩ := X.invokevirtual hexec hown (hts _ hl) hnamed hmethM hstM hkP hkPi hok.2.2.2 (a := xw_ad G b) (cell := cell) g1 (fun z h => by rw [g3] at h; cases h) hselP hmethM habM hkP hkPi
    (g := F0 m pc ls ((As.reverse ++ .ref b :: rest).map (xw_tv G))) rfl (argsL := As.map (xw_tv G)) (rest := rest.map (xw_tv G))
    (by rw [List.length_map]; rw [hsigM] at hn; exact (Option.some.inj hn).symm) (by show (As.reverse ++ .ref b :: rest).map (xw_tv G) = _; rw [List.map_append, List.map_reverse]; rfl) (by rw [hbc]; exact h)
  exact ⟨vm₁, mk, X₁, X₁.named hnamed, hstep₁⟩
theorem xw_lkS {idx : Nat} (h : decode M.2.1 pc = .ok (.invokestatic idx, 3)) (hl : Cond.methodLink M.1.cls idx M'.1 ∈ xw_T) (hst : Cond.static M'.1 ∈ xw_T) (hok : xw_ok M')
    (hn : (parseMethodDescriptor M'.1.desc).map (fun d => d.parameters.length) = some As.length) : xw_lk κ l M M' pc w (As.reverse ++ rest) rest As := by
  intro G p e R s m args below meth c T locs cells slots ls hS hR X
  obtain ⟨hexec, hbc, hmx, hrt, hlk0, hown, hnm, hts, htr, htab, hRr, hw0⟩ := id hS
  obtain ⟨mk, hnamed⟩ : ∃ mk, s.methodNamed? M'.1 = some mk := by
    have h1 := hts _ hst
    cases hm : s.methodNamed? M'.1 with
    | some mk => exact ⟨mk, rfl⟩
    | none => simp [Cond.before, Cond.holds, Cond.value, hm] at h1
  obtain ⟨methM, cM, hmethM, -, -, -, -, -, -, hsigM⟩ := xw_cw_spec hnamed (hts _ hok.1)
  have hstatic : methM.isStatic = true := Cond.static_spec hnamed hmethM (hts _ hst)
  obtain ⟨kP, hkP, -⟩ := className_of_methodNamed hnamed
  have hinitP : kP.init = .initialized := Cond.initialized_spec (findClass_of_methodNamed hnamed) hkP (hts _ hok.2.1)
  obtain ⟨vm₁, X₁, hstep₁⟩ := X.invokestatic hexec hown (hts _ hl) hnamed hmethM hstatic hkP hinitP hok.2.2.2 (g := F0 m pc ls ((As.reverse ++ rest).map (xw_tv G))) rfl (argsL := As.map (xw_tv G)) (rest := rest.map (xw_tv G))
    (by rw [List.length_map]; rw [hsigM] at hn; exact (Option.some.inj hn).symm) (by show (As.reverse ++ rest).map (xw_tv G) = _; rw [List.map_append, List.map_reverse]) (by rw [hbc]; exact h)
  exact ⟨vm₁, mk, X₁, X₁.named hnamed, hstep₁⟩
theorem xw_lkI {idx b : Nat} (h : decode M.2.1 pc = .ok (.invokespecial idx, 3)) (hy : M'.1.name = "<init>") (hl : Cond.methodLink M.1.cls idx M'.1 ∈ xw_T) (hin : Cond.instanceMethod M'.1 ∈ xw_T) (hok : xw_ok M') (hcd : Cond.code M'.1 M'.2.1 M'.2.2.1 none ∈ xw_T)
    (hn : (parseMethodDescriptor M'.1.desc).map (fun d => d.parameters.length) = some As.length) : xw_lk κ l M M' pc w (As.reverse ++ .ref b :: rest) rest (.ref b :: As) := by
  intro G p e R s m args below meth c T locs cells slots ls hS hR X
  obtain ⟨hexec, hbc, hmx, hrt, hlk0, hown, hnm, hts, htr, htab, hRr, hw0⟩ := id hS
  have hpl : e.platform.magicAccessors = ({} : Platform).magicAccessors := by rw [X.admits.platform]
  obtain ⟨mk, methM, cM, kP, vm₁, hnamed, hmethM, hcodeM, -, hlocalsM, -, hkP, -, hW₁, hstep₁⟩ := Steps.initColdArgs (e := e) X.here hexec X.warmed hpl hown hy hok.2.2.2 (hts _ hl) (hts _ hin) (hts _ hcd) (f := F0 m pc ls ((As.reverse ++ .ref b :: rest).map (xw_tv G))) rfl (a := xw_ad G b) (argsL := As.map (xw_tv G)) (rest := rest.map (xw_tv G))
    (fun sig hs => by rw [List.length_map]; rw [hs] at hn; exact (Option.some.inj hn).symm) (by show (As.reverse ++ .ref b :: rest).map (xw_tv G) = _; rw [List.map_append, List.map_reverse]; rfl) (by rw [hbc]; exact h)
  have X₁ := X.noted hW₁
  exact ⟨vm₁, mk, X₁, X₁.named hnamed, hstep₁⟩
theorem xw_lkN {idx b : Nat} {host : String} (h : decode M.2.1 pc = .ok (.invokespecial idx, 3)) (hy : M'.1.name = "<init>") (hl : Cond.methodLinkNest M.1.cls idx M'.1 host ∈ xw_T) (hin : Cond.instanceMethod M'.1 ∈ xw_T) (hok : xw_ok M') (hcd : Cond.code M'.1 M'.2.1 M'.2.2.1 none ∈ xw_T)
    (hn : (parseMethodDescriptor M'.1.desc).map (fun d => d.parameters.length) = some As.length) : xw_lk κ l M M' pc w (As.reverse ++ .ref b :: rest) rest (.ref b :: As) := by
  intro G p e R s m args below meth c T locs cells slots ls hS hR X
  obtain ⟨hexec, hbc, hmx, hrt, hlk0, hown, hnm, hts, htr, htab, hRr, hw0⟩ := id hS
  have hpl : e.platform.magicAccessors = ({} : Platform).magicAccessors := by rw [X.admits.platform]
  obtain ⟨mk, methM, cM, kP, vm₁, hnamed, hmethM, hcodeM, -, hlocalsM, -, hkP, -, hW₁, hstep₁⟩ := Steps.initColdArgsNest (e := e) X.here hexec X.warmed hpl hown hy hok.2.2.2 (hts _ hl) (hts _ hin) (hts _ hcd) (f := F0 m pc ls ((As.reverse ++ .ref b :: rest).map (xw_tv G))) rfl (a := xw_ad G b) (argsL := As.map (xw_tv G)) (rest := rest.map (xw_tv G))
    (fun sig hs => by rw [List.length_map]; rw [hs] at hn; exact (Option.some.inj hn).symm) (by show (As.reverse ++ .ref b :: rest).map (xw_tv G) = _; rw [List.map_append, List.map_reverse]; rfl) (by rw [hbc]; exact h)
  have X₁ := X.noted hW₁
  exact ⟨vm₁, mk, X₁, X₁.named hnamed, hstep₁⟩
end XK
