/-! What a heap holds of a world; a method's stretch and a method's contract over worlds. -/
/-- what the heap holds of cell i: κ i = (0, class), (1, length of an int array), (2, of a boolean array), (3, of the script), (4, _) an exception -/
def xw_C (κ : Nat → Nat × Nat) (G : xw_G) (σ : xs_S) (ρ : xs_R) (s : State) (H : Heap) (i : Nat) : Prop :=
  ((κ i).1 = 0 → ∃ q : vw_C, vwCl[(κ i).2]? = some q ∧ t_OB (xw_ad G i) (G.1.1 (κ i).2) q.2.2 (G.1.2 (κ i).2) H (fun k => xw_fv (xw_ft (κ i).2 k) G (σ i k) (ρ i k))) ∧
  ((κ i).1 = 1 → H[xw_ad G i]? = some (arrV G.2.1.1 (κ i).2 (fun j => .int (σ i j)))) ∧
  ((κ i).1 = 2 → H[xw_ad G i]? = some (arrV G.2.1.2.1 (κ i).2 (fun j => .int (σ i j)))) ∧
  ((κ i).1 = 3 → ∃ scr : Cell, H[xw_ad G i]? = some scr ∧ s.isArrayOf scr .int ∧ scr.vm ≠ .unknown ∧ scr.slots.size = (κ i).2 ∧ ∀ j : Nat, j < (κ i).2 → scr.slots[j]? = some (.int (σ i j))) ∧
  (4 ≤ (κ i).1 → ∃ cell : Cell, H[xw_ad G i]? = some cell ∧ cell.cls = G.2.1.2.2 ∧ cell.vm = .none)
theorem xw_C.kept {κ : Nat → Nat × Nat} {G : xw_G} {σ σ' : xs_S} {ρ ρ' : xs_R} {s : State} {H H' : Heap} {i : Nat} (h : xw_C κ G σ ρ s H i) (h2 : H'[xw_ad G i]? = H[xw_ad G i]?) (h3 : ∀ k, σ' i k = σ i k) (h4 : ∀ k, ρ' i k = ρ i k) : xw_C κ G σ' ρ' s H' i := by
  have e3 : σ' i = σ i := funext h3
  have e4 : ρ' i = ρ i := funext h4
  obtain ⟨a0, a1, a2, a3, a4⟩ := h
  unfold xw_C
  rw [e3, e4, h2]
  refine ⟨fun z => ?_, a1, a2, a3, a4⟩
  obtain ⟨q, h5, h6⟩ := a0 z
  exact ⟨q, h5, h6.kept h2⟩
theorem xw_C.moved {κ : Nat → Nat × Nat} {G : xw_G} {σ : xs_S} {ρ : xs_R} {u U : State} {H : Heap} {i : Nat} (hvm : u.vm.Alike U.vm) (h : xw_C κ G σ ρ u H i) : xw_C κ G σ ρ U H i := by
  obtain ⟨a0, a1, a2, a3, a4⟩ := h
  refine ⟨a0, a1, a2, fun z => ?_, a4⟩
  obtain ⟨scr, h1, h2, h3⟩ := a3 z
  exact ⟨scr, h1, State.isArrayOf_alike hvm h2, h3⟩
theorem xw_C.at {κ : Nat → Nat × Nat} {G : xw_G} {σ : xs_S} {ρ : xs_R} {s : State} {H : Heap} {i : Nat} (h : xw_C κ G σ ρ s H i) : ∃ cell : Cell, H[xw_ad G i]? = some cell ∧ cell.vm.isStatics = false := by
  obtain ⟨a0, a1, a2, a3, a4⟩ := h
  rcases (by omega : (κ i).1 = 0 ∨ (κ i).1 = 1 ∨ (κ i).1 = 2 ∨ (κ i).1 = 3 ∨ 4 ≤ (κ i).1) with z | z | z | z | z
  · obtain ⟨q, -, cell, h1, -, h3, -⟩ := a0 z
    exact ⟨cell, h1, by rw [h3]; rfl⟩
  · exact ⟨_, a1 z, rfl⟩
  · exact ⟨_, a2 z, rfl⟩
  · obtain ⟨scr, h1, h2, -⟩ := a3 z
    refine ⟨scr, h1, ?_⟩
    cases hv : scr.vm with
    | statics k => exact absurd hv (h2.1 k)
    | _ => rfl
  · obtain ⟨cell, h1, -, h3⟩ := a4 z
    exact ⟨cell, h1, by rw [h3]; rfl⟩
/-- a heap holds a world -/
def xw_R (κ : Nat → Nat × Nat) (G : xw_G) (w : xw_W) (s : State) (H : Heap) : Prop :=
  (∀ i, i < w.1 → xw_C κ G w.2.2.1 w.2.2.2 s H i) ∧ G.2.2.1 < G.2.2.2 ∧ (1 ≤ w.1 ∧ H.size = G.2.2.2 + (w.1 - 1)) ∧
  (xw_z Jvm.Bundle.tN "UNASSIGNED_STACK" Jvm.Bundle.steD s H ∧ xw_z Jvm.Bundle.tN "SUPPRESSED_SENTINEL" Jvm.Bundle.listD s H) ∧
  va_K G.1 vwCl [(G.2.1.1, .int), (G.2.1.2.1, .boolean)] s ∧ s.vm.findClass "java/lang/IllegalStateException" = some G.2.1.2.2
theorem xw_R.moved {κ : Nat → Nat × Nat} {G : xw_G} {w : xw_W} {u U : State} {H : Heap} (hvm : u.vm.Alike U.vm) (h : xw_R κ G w u H) : xw_R κ G w U H := by
  obtain ⟨a, b, c, d, e, f⟩ := h
  exact ⟨fun i hi => (a i hi).moved hvm, b, c, ⟨d.1.moved hvm, d.2.moved hvm⟩, va_K.moved hvm e, by rw [hvm.findClass]; exact f⟩
/-- one cell is written -/
theorem xw_R.put {κ : Nat → Nat × Nat} {G : xw_G} {n u : Nat} {σ σ' : xs_S} {ρ ρ' : xs_R} {s : State} {H H' : Heap} {i : Nat} (h : xw_R κ G (n, u, σ, ρ) s H) (hi : i < n) (hz : H'.size = H.size) (ho : ∀ q, q ≠ xw_ad G i → H'[q]? = H[q]?) (hc : xw_C κ G σ' ρ' s H' i) (h3 : ∀ j k, j ≠ i → σ' j k = σ j k) (h4 : ∀ j k, j ≠ i → ρ' j k = ρ j k) : xw_R κ G (n, u, σ', ρ') s H' := by
  obtain ⟨a, b, c, d, e, f⟩ := h
  obtain ⟨cl, hcl, hns⟩ := (a i hi).at
  have hk : ∀ (q : Nat) (cell : Cell), H[q]? = some cell → cell.vm.isStatics = true → H'[q]? = some cell := by
    intro q cell h1 h2
    rw [ho q (fun z => by
      subst z
      have h5 := Option.some.inj (h1.symm.trans hcl)
      rw [h5, hns] at h2
      cases h2)]
    exact h1
  refine ⟨fun j hj => ?_, b, ⟨c.1, by rw [hz]; exact c.2⟩, ⟨d.1.kept hk, d.2.kept hk⟩, e, f⟩
  by_cases hji : j = i
  · subst hji; exact hc
  · exact (a j hj).kept (ho _ (fun z => hji (xw_adi b z))) (fun k => h3 j k hji) (fun k => h4 j k hji)
/-- a cell is made -/
theorem xw_R.new {κ : Nat → Nat × Nat} {G : xw_G} {n u u' : Nat} {σ σ' : xs_S} {ρ ρ' : xs_R} {s : State} {H H' : Heap} (h : xw_R κ G (n, u, σ, ρ) s H) (hz : H'.size = H.size + 1) (ho : ∀ q, q < H.size → H'[q]? = H[q]?) (hc : xw_C κ G σ' ρ' s H' n) (h3 : ∀ j k, j ≠ n → σ' j k = σ j k) (h4 : ∀ j k, j ≠ n → ρ' j k = ρ j k) : xw_R κ G (n + 1, u', σ', ρ') s H' := by
  obtain ⟨a, b, c, d, e, f⟩ := h
  have hk : ∀ (q : Nat) (cell : Cell), H[q]? = some cell → cell.vm.isStatics = true → H'[q]? = some cell := by
    intro q cell h1 h2
    rw [ho q (Array.getElem?_eq_some_iff.mp h1).1]
    exact h1
  have c1 : 1 ≤ n := c.1
  have c2 : H.size = G.2.2.2 + (n - 1) := c.2
  refine ⟨fun j hj => ?_, b, ⟨Nat.le_add_left 1 n, ?_⟩, ⟨d.1.kept hk, d.2.kept hk⟩, e, f⟩
  · by_cases hji : j = n
    · subst hji; exact hc
    · have hj' : j < n := by
        have : j < n + 1 := hj
        omega
      obtain ⟨cl, hcl, -⟩ := (a j hj').at
      exact (a j hj').kept (ho _ (Array.getElem?_eq_some_iff.mp hcl).1) (fun k => h3 j k hji) (fun k => h4 j k hji)
  · show H'.size = G.2.2.2 + (n + 1 - 1)
    rw [hz, c2]
    omega
theorem xw_R.next {κ : Nat → Nat × Nat} {G : xw_G} {w : xw_W} {s : State} {H : Heap} (h : xw_R κ G w s H) : H.size = xw_ad G w.1 := by
  rw [xw_adp G h.2.2.1.1]
  exact h.2.2.1.2
/-- the locals of the small machine -/
def xw_la : Nat → List (Option Value) → List (Nat × Value)
  | _, [] => []
  | i, none :: t => xw_la (i + 1) t
  | i, some v :: t => (i, v) :: xw_la (i + 1) t
theorem xw_la_mem (L : List (Option Value)) : ∀ (i0 : Nat) (q : Nat × Value), q ∈ xw_la i0 L ↔ ∃ k, q.1 = i0 + k ∧ L[k]? = some (some q.2) := by
  induction L with
  | nil => intro i0 q; simp [xw_la]
  | cons o t ih =>
    intro i0 q
    cases o with
    | none =>
      rw [xw_la, ih]
      constructor
      · rintro ⟨k, h1, h2⟩
        exact ⟨k + 1, by omega, by simpa using h2⟩
      · rintro ⟨k, h1, h2⟩
        cases k with
        | zero => simp at h2
        | succ k => exact ⟨k, by omega, by simpa using h2⟩
    | some v =>
      rw [xw_la, List.mem_cons, ih]
      constructor
      · rintro (rfl | ⟨k, h1, h2⟩)
        · exact ⟨0, by simp, by simp⟩
        · exact ⟨k + 1, by omega, by simpa using h2⟩
      · rintro ⟨k, h1, h2⟩
        cases k with
        | zero =>
          left
          obtain ⟨a, b⟩ := q
          simp at h1 h2
          rw [h1, h2]
        | succ k => exact Or.inr ⟨k, by omega, by simpa using h2⟩
def xw_L (nL : Nat) (G : xw_G) (L : List (Option Value)) (ls : Array Slot) : Prop := lv_has ls nL ((xw_la 0 L).map fun q => (q.1, xw_tv G q.2))
theorem xw_L.get {nL : Nat} {G : xw_G} {L : List (Option Value)} {ls : Array Slot} (h : xw_L nL G L ls) {i : Nat} {v : Value} (hi : L[i]? = some (some v)) : ls[i]? = some (.val (xw_tv G v)) :=
  h.2.2 (i, xw_tv G v) (List.mem_map.mpr ⟨(i, v), (xw_la_mem L 0 (i, v)).mpr ⟨i, by simp, hi⟩, rfl⟩)
theorem xw_L.sub {nL : Nat} {G : xw_G} {L : List (Option Value)} {ls : Array Slot} {l : List (Nat × Value)} (h : lv_has ls nL l) (hs : ∀ i v, L[i]? = some (some v) → (i, xw_tv G v) ∈ l) : xw_L nL G L ls := by
  refine ⟨h.1, h.2.1, fun q hq => ?_⟩
  obtain ⟨⟨i, v⟩, h1, rfl⟩ := List.mem_map.mp hq
  obtain ⟨k, h2, h3⟩ := (xw_la_mem L 0 (i, v)).mp h1
  have h2 : i = k := by simpa using h2
  subst h2
  exact h.2.2 _ (hs _ v h3)
/-- the words of all tables that hold on -/
def xw_cw (M : xw_M) : Cond := match M.2.2.2.2.1 with
  | [] => .code M.1 M.2.1 M.2.2.1 M.2.2.2.1
  | h :: t => .codeWith M.1 M.2.1 M.2.2.1 M.2.2.2.1 (h :: t)
theorem xw_cw_spec {M : xw_M} {args : Array Value} {s : State} {m : MethodId} (hn : s.methodNamed? M.1 = some m) (h : (xw_cw M).before args s = true) :
    ∃ meth c, s.vm.method? m = some meth ∧ meth.code = some c ∧ c.code = M.2.1 ∧ c.maxLocals = M.2.2.1 ∧ meth.sig.returnType = M.2.2.2.1 ∧ meth.locks = false ∧ c.exceptionTable.toList.map (fun h => (h.startPc, h.endPc, h.handlerPc, h.catchType)) = M.2.2.2.2.1 ∧ parseMethodDescriptor M.1.desc = some meth.sig := by
  unfold xw_cw at h
  split at h
  · next hh =>
    obtain ⟨meth, c, h1, h2, h3, h4, h5, h6, h7, h8⟩ := Cond.code_spec hn h
    refine ⟨meth, c, h1, h2, h3, h4, h5, h6, ?_, h8⟩
    have h9 : c.exceptionTable = #[] := by simpa using h7
    rw [h9, hh]
    rfl
  · next a t hh =>
    obtain ⟨m', meth, c, h0, h1, h2, h3, h4, h7, h5, h6, h8⟩ := Cond.codeWith_spec h
    cases hn.symm.trans h0
    exact ⟨meth, c, h1, h2, h3, h4, h5, h6, by rw [h7, hh], h8⟩
theorem xw_Tmove {s U : State} {args a' : Array Value} (hW : s.WarmedH U.vm) (h : ∀ w ∈ xw_T, w.before args s = true) : ∀ w ∈ xw_T, w.before a' U = true :=
  fun w hw => xw_gw_move hW (List.mem_filter.mp hw).2 (h w hw)
/-- a method that stands in the tables -/
def xw_ok (M : xw_M) : Prop := xw_cw M ∈ xw_T ∧ Cond.initialized M.1.cls ∈ xw_T ∧ plainName M.1.cls = true ∧ M.1.cls ≠ "java/lang/invoke/MethodHandle" ∧ M.1.cls ≠ "java/lang/invoke/VarHandle"
/-- what stands while a method runs -/
def xw_S (κ : Nat → Nat × Nat) (G : xw_G) (l : Launch) (M : xw_M) (p : Program) (R : Room) (s : State) (m : MethodId) (args : Array Value) (meth : Method) (c : Code) : Prop :=
  p.tables.exec = Jvm.exec ∧ c.code = M.2.1 ∧ c.maxLocals = M.2.2.1 ∧ meth.sig.returnType = M.2.2.2.1 ∧ meth.locks = false ∧ s.vm.findClass M.1.cls = some m.cls ∧ meth.name = M.1.name ∧ (∀ w ∈ xw_T, w.before args s = true) ∧ l.stackTraces = false ∧
  c.exceptionTable.toList.map (fun h => (h.startPc, h.endPc, h.handlerPc, h.catchType)) = M.2.2.2.2.1 ∧ (R.frames = M.2.2.2.2.2.1 ∧ R.locals = M.2.2.2.2.2.2) ∧ ∃ w0, xw_R κ G w0 s s.heap
abbrev xw_lc (G : xw_G) (locs : List Loc) : Prop := ∀ q ∈ locs, ∃ i, 0 < i ∧ q.base = xw_ad G i
/-- where a stretch ends -/
def xw_Q (κ : Nat → Nat × Nat) (G : xw_G) (below : List Frame) (s : State) (E : xw_O × xw_W) (mc ms : Nat) : State → Prop := fun t =>
  ∃ (o : Outcome) (L : List Loc), t.status = .running ∧ Ended t below o ∧ (match E.1 with | .inl v => o = .returned (v.map (xw_tv G)) | .inr i => o = .threw (xw_ad G i)) ∧
    xw_R κ G E.2 s t.heap ∧ s.WarmedH t.vm ∧ s.sameButNew ({ t with vm := s.vm } : State) L mc ms ∧ xw_lc G L
/-- from pc, with these locals, this stack and this world, the method comes to E -/
def xw_w (κ : Nat → Nat × Nat) (l : Launch) (M : xw_M) (pc : Nat) (L : List (Option Value)) (S : List Value) (w : xw_W) (E : xw_O × xw_W) : Prop :=
  (w.1 ≤ E.2.1 ∧ w.2.1 ≤ E.2.2.1) ∧
  ∀ (G : xw_G) (p : Program) (e : Env) (R : Room) (s : State) (m : MethodId) (args : Array Value) (below : List Frame) (meth : Method) (c : Code) (H : Heap) (locs : List Loc) (cells slots : Nat) (ls : Array Slot),
    xw_S κ G l M p R s m args meth c → xw_R κ G w s H → xw_L M.2.2.1 G L ls → xw_lc G locs → cells + (E.2.1 - w.1) ≤ R.cells → slots + (E.2.2.1 - w.2.1) ≤ R.slots →
    W p l e R s m args below meth c H locs cells slots (xw_Q κ G below s E (cells + (E.2.1 - w.1)) (slots + (E.2.2.1 - w.2.1))) (F0 m pc ls (S.map (xw_tv G)))
/-- called with av in the world w, the method comes to E -/
def xm_m (κ : Nat → Nat × Nat) (l : Launch) (M : xw_M) (av : List Value) (w : xw_W) (E : xw_O × xw_W) : Prop :=
  (w.1 ≤ E.2.1 ∧ w.2.1 ≤ E.2.2.1) ∧
  ∀ G : xw_G, MetFree l M.1 (headSpec xw_T { frames := M.2.2.2.2.2.1, cells := E.2.1 - w.1, slots := E.2.2.1 - w.2.1, locals := M.2.2.2.2.2.2 }) (fun a U => a = (av.map (xw_tv G)).toArray ∧ xw_R κ G w U U.heap) (fun _ _ _ _ _ => True)
    (fun _ st o t => (match E.1 with | .inl v => o = .returned (v.map (xw_tv G)) | .inr i => o = .threw (xw_ad G i)) ∧ xw_R κ G E.2 st t.heap ∧ st.WarmedH t.vm ∧ ∃ L, st.sameButNew ({ t with vm := st.vm } : State) L (E.2.1 - w.1) (E.2.2.1 - w.2.1) ∧ xw_lc G L)
