/-! Throwing: a new exception, made and thrown. -/
section XT
variable {p : Program} {l : Launch} {e : Env} {R : Room} {s : State} {m : MethodId} {args : Array Value} {below : List Frame} {meth : Method} {c : Code} {T : State} {locs : List Loc} {cells slots : Nat}
/-- a method under way, told from where it is now -/
theorem xt_rb (X : Stand p l e R s m args below meth c T locs cells slots) (hc : cells ≤ R.cells) (hs : slots ≤ R.slots) :
    Stand p l e { frames := R.frames, cells := R.cells - cells, slots := R.slots - slots, locals := R.locals } (T.setFrames (.invoking m args :: below)) m args below meth c T [] 0 0 := by
  obtain ⟨g₀, hfr⟩ := X.frames_eq
  have hcur : T.cur < T.threads.size := State.cur_lt_of_frames hfr
  have hF : (T.setFrames (.invoking m args :: below)).frames = .invoking m args :: below := State.frames_setFrames _ hcur
  obtain ⟨t, ht, -⟩ := State.frames_cons hF
  have hm' : (T.setFrames (.invoking m args :: below)).vm.method? m = some meth := X.method'
  refine ⟨X.admits, X.cas, X.clock, hF, ?_, ?_, hm', X.code, X.here, X.tail, State.WarmedH.refl _, by rw [State.stackLimits_setFrames], by rw [State.stackBytes_setFrames], ?_⟩
  · have h := X.room
    have h1 := X.heapSize
    have h2 := X.used
    have h3 := X.book
    have hlu : (T.setFrames (.invoking m args :: below)).localsInUse = s.localsInUse := by
      rw [State.localsInUse_invoking hF hm' X.code, State.localsInUse_invoking X.frames X.method X.code]
    have h4 : (T.setFrames (.invoking m args :: below)).slotsTrue = true := h3
    have hlen : s.frames.length = (T.setFrames (.invoking m args :: below)).frames.length := by rw [hF, X.frames]
    simp only [State.hasRoom, Bool.and_eq_true, decide_eq_true_eq] at h ⊢
    obtain ⟨⟨⟨⟨a1, a2, a3, a4, a5, a6⟩, a7⟩, a8⟩, a9⟩ := h
    have hz : (T.setFrames (.invoking m args :: below)).heap.size = T.heap.size := rfl
    have hu : (T.setFrames (.invoking m args :: below)).slotsUsed = T.slotsUsed := rfl
    rw [hlu, ← hlen, State.stackLimits_setFrames, State.stackBytes_setFrames, X.limits, X.bytes, hz, hu]
    exact ⟨⟨⟨⟨a1, a2, a3, a4, a5, a6⟩, by omega⟩, by omega⟩, h4⟩
  · have h := X.hears
    have hmv : ∀ k, (T.setFrames (.invoking m args :: below)).vm.method? k = s.vm.method? k := fun k => X.warmed.alike.method? k
    have hcv : ∀ k, (T.setFrames (.invoking m args :: below)).code? k = s.code? k := fun k => by rw [State.code?_eq, State.code?_eq, hmv]
    unfold State.hears at h ⊢
    split at h
    · next => rw [hcv]; exact h
    · rfl
    · rfl
    · next => rw [hmv]; exact h
  · have h := (State.sameButNew.refl (T.setFrames (.invoking m args :: below)) ht).setFrames T.frames (State.cur_lt_of_frames hF)
    obtain ⟨t', ht', -⟩ := State.frames_cons hfr
    rw [State.setFrames_setFrames, State.setFrames_self ht'] at h
    exact h
end XT
section XU
variable {κ : Nat → Nat × Nat} {l : Launch} {M : xw_M} {pc pc1 pc2 pc3 pc4 : Nat} {L : List (Option Value)} {S : List Value} {n u : Nat} {σ : xs_S} {ρ : xs_R}
abbrev xt_X : String := "java/lang/IllegalStateException"
abbrev xt_up : List String := ["java/lang/RuntimeException", "java/lang/Exception"]
abbrev xt_z : List Cond := [.laysStatic Jvm.Bundle.tN "UNASSIGNED_STACK" Jvm.Bundle.steD, .laysStatic Jvm.Bundle.tN "SUPPRESSED_SENTINEL" Jvm.Bundle.listD, .isRef (.static Jvm.Bundle.tN "UNASSIGNED_STACK" Jvm.Bundle.steD), .isRef (.static Jvm.Bundle.tN "SUPPRESSED_SENTINEL" Jvm.Bundle.listD)]
theorem xt_zs {args : Array Value} {s : State} (h1 : xw_z Jvm.Bundle.tN "UNASSIGNED_STACK" Jvm.Bundle.steD s s.heap) (h2 : xw_z Jvm.Bundle.tN "SUPPRESSED_SENTINEL" Jvm.Bundle.listD s s.heap) : ∀ w ∈ xt_z, w.before args s = true := by
  intro w hw
  simp only [xt_z, List.mem_cons, List.not_mem_nil, or_false] at hw
  rcases hw with rfl | rfl | rfl | rfl
  · exact h1.lays
  · exact h2.lays
  · exact h1.isRef
  · exact h2.isRef
set_option maxHeartbeats 2000000 in
theorem xw_thr {idx ic : Nat} (h1 : xw_dec M.2.1 pc (.new idx) 3 pc1) (h2 : xw_dec M.2.1 pc1 .dup 1 pc2) (h3 : xw_dec M.2.1 pc2 (.invokespecial ic) 3 pc3) (h4 : xw_dec M.2.1 pc3 .athrow 1 pc4)
    (hcl : Cond.classLink M.1.cls idx xt_X ∈ xw_T) (hini : Cond.initialized xt_X ∈ xw_T) (hins : Cond.instantiable xt_X 6 ∈ xw_T) (hat : ∀ a ∈ Jvm.Bundle.ownAtoms0 M.1.cls ic xt_X xt_up, a ∈ xw_T ∨ a ∈ xt_z) (hh : M.2.2.2.2.1 = []) (hκ : 4 ≤ (κ n).1)
    (hr : 6 ≤ M.2.2.2.2.2.1 ∧ (S.map fun v => v.category).sum + 81 ≤ M.2.2.2.2.2.2) : xw_w κ l M pc L S (n, u, σ, ρ) (.inr n, (n + 1, u + 6, σ, ρ)) := by
  obtain ⟨hd1, rfl⟩ := h1
  obtain ⟨hd2, rfl⟩ := h2
  obtain ⟨hd3, rfl⟩ := h3
  obtain ⟨hd4, rfl⟩ := h4
  refine ⟨⟨Nat.le_succ _, Nat.le_add_right _ _⟩, fun G p e R s m args below meth c H locs cells slots ls hS hR hL hlo hc hs => ?_⟩
  intro T hT X0
  subst hT
  obtain ⟨hexec, hb, hmx, hrt, hlocks, hown, hnm, hts, htr, htab, ⟨hRf, hRl⟩, hw0⟩ := id hS
  have hc : cells + (n + 1 - n) ≤ R.cells := hc
  have hs : slots + (u + 6 - u) ≤ R.slots := hs
  have X := xt_rb X0 (by omega) (by omega)
  generalize hs1 : T.setFrames (.invoking m args :: below) = s1 at X
  have hvm1 : s1.vm = T.vm := by rw [← hs1]; rfl
  have hhp1 : s1.heap = T.heap := by rw [← hs1]; rfl
  have hW1 : s.WarmedH s1.vm := by rw [hvm1]; exact X0.warmed
  have hts1 : ∀ w ∈ xw_T, w.before args s1 = true := xw_Tmove hW1 hts
  have hR1 : xw_R κ G (n, u, σ, ρ) s1 T.heap := hR.moved hW1.alike
  have hown1 : s1.vm.findClass M.1.cls = some m.cls := by rw [hW1.alike.findClass]; exact hown
  have hz1 := hR1.2.2.2.1
  rw [← hhp1] at hz1
  have hat1 : ∀ a ∈ Jvm.Bundle.ownAtoms0 M.1.cls ic xt_X xt_up, a.before args s1 = true := fun a ha => by
    rcases hat a ha with h | h
    · exact hts1 a h
    · exact xt_zs hz1.1 hz1.2 a h
  have htr1 : e.platform.stackTraces = false := by
    have h5 : e.platform.stackTraces = l.stackTraces := by rw [X.admits.platform]
    rw [h5]; exact htr
  obtain ⟨vm₁, cX, kX, hfX, hkX, -, -, X₁, st1⟩ := X.newCold hexec (own := M.1.cls) (C := xt_X) (index := idx) (n := 6) hown1 (hts1 _ hcl) (hts1 _ hins) (hts1 _ hini)
    (g := F0 m pc ls (S.map (xw_tv G))) rfl (by rw [hb]; exact hd1) (show 0 + 1 ≤ R.cells - cells by omega) (show 0 + 6 ≤ R.slots - slots by omega)
  generalize hT1 : (T.setVm vm₁).pushCell { cls := cX, slots := kX.instanceTypes.map defaultValue, vm := .none } = T1 at X₁ st1
  have hcellA : T1.heap[T.heap.size]? = some (freshCell cX kX) := by rw [← hT1]; exact State.heap_pushCell_size _ _
  have hout : ∀ x ∈ c.exceptionTable.toList, covers x (pc + 3 + 1 + 3) = false := by
    intro x hx
    rw [hh] at htab
    have h5 : c.exceptionTable.toList = [] := List.map_eq_nil_iff.mp htab
    rw [h5] at hx
    cases hx
  have hwt : 2 * (F0 m (pc + 3 + 1) ls (.ref T.heap.size :: .ref T.heap.size :: S.map (xw_tv G))).monitorRoom + ((Value.ref T.heap.size :: S.map (xw_tv G)).map fun v => v.category).sum + (13 * (xt_up.length + 1) + 41) ≤ R.locals := by
    show 2 * 0 + ((Value.ref T.heap.size :: S.map (xw_tv G)).map fun v => v.category).sum + (13 * (2 + 1) + 41) ≤ R.locals
    rw [List.map_cons, List.sum_cons, xw_tv_sum, hRl]
    have h6 := hr.2
    show 2 * 0 + (1 + (S.map fun v => v.category).sum) + (13 * (2 + 1) + 41) ≤ _
    omega
  obtain ⟨U, hsteps, hrun, hend, hWU, hsame, ce, hce, K⟩ := X₁.ctorThrow0 hexec htr1 (own := M.1.cls) (cls := xt_X) (names := xt_up) (ic := ic) hown1 (by decide +kernel) (by decide +kernel) hat1 (fun x hx => by cases hx) hfX hkX hcellA
    (by rw [hhp1]; exact Nat.le_refl _) (g := F0 m (pc + 3 + 1) ls (.ref T.heap.size :: .ref T.heap.size :: S.map (xw_tv G))) rfl (hL.1.trans hmx.symm) rfl rfl (rest := S.map (xw_tv G)) rfl
    (by rw [hb]; exact hd3) (by rw [hb]; exact hd4) hout (show xt_up.length + 3 < R.frames by rw [hRf]; have := hr.1; simp only [xt_up, List.length_cons, List.length_nil]; omega) hwt hlocks
  have hsz : U.heap.size = T.heap.size + 1 := by
    have h5 : U.heap.size ≤ s1.heap.size + (0 + 1) := hsame.2.2.1
    have h6 := (Array.getElem?_eq_some_iff.mp hce).1
    rw [hhp1] at h5
    omega
  have hold : ∀ q, q < T.heap.size → U.heap[q]? = T.heap[q]? := by
    intro q hq
    have h5 : s1.heap[q]? = some (T.heap[q]) := by rw [hhp1]; exact Array.getElem?_eq_getElem hq
    have h6 : ({ U with vm := s1.vm } : State).heap[q]? = some (T.heap[q]) := State.sameButNew.old_cell hsame h5
    rw [Array.getElem?_eq_getElem hq]
    exact h6
  have hnx : T.heap.size = xw_ad G n := hR.next
  have hRU : xw_R κ G (n + 1, u + 6, σ, ρ) s U.heap := by
    refine hR.new hsz hold ?_ (fun _ _ _ => rfl) (fun _ _ _ => rfl)
    refine ⟨fun z => absurd hκ (by omega), fun z => absurd hκ (by omega), fun z => absurd hκ (by omega), fun z => absurd hκ (by omega), fun _ => ⟨ce, by rw [← hnx]; exact hce, ?_, K.vm⟩⟩
    have h5 := K.cls
    rw [hW1.alike.findClass] at h5
    exact Option.some.inj (h5.symm.trans hR.2.2.2.2.2)
  have hWs : s.WarmedH U.vm := by
    have h5 : s1.WarmedH U.vm := hWU
    exact State.WarmedH.trans hW1 h5
  refine ⟨U, st1 _ ?_, .threw (xw_ad G n), locs, hrun, by rw [← hnx]; exact hend, rfl, hRU, hWs, ?_, hlo⟩
  · show Steps p.tables e below (T1.setTop (F0 m (pc + 3) ls (.ref T.heap.size :: S.map (xw_tv G)))) U
    have hx1 : At T1 m c below := X₁.here
    have hdd : decode c.code (pc + 3) = .ok (.dup, 1) := by rw [hb]; exact hd2
    jvm_step hx1 [hx1.top, hexec, hdd, Value.category]
    exact hsteps
  · obtain ⟨g₀, hfr⟩ := X0.frames_eq
    obtain ⟨t', ht', -⟩ := State.frames_cons hfr
    have hcur : T.cur < T.threads.size := State.cur_lt_of_frames hfr
    have hA : (T.setVm s.vm).sameButNew ((T.setVm s.vm).setFrames (.invoking m args :: below)) [] 0 0 := (State.sameButNew.refl (T.setVm s.vm) (x := t') ht').setFrames _ hcur
    have hB := hsame.setVm s.vm
    rw [← hs1] at hB
    have hC := X0.same.trans (hA.trans hB)
    show s.sameButNew _ locs (cells + (n + 1 - n)) (slots + (u + 6 - u))
    have e1 : cells + (n + 1 - n) = cells + (0 + (0 + 1)) := by omega
    have e2 : slots + (u + 6 - u) = slots + (0 + (0 + 6)) := by omega
    rw [e1, e2]
    have e3 : locs ++ ([] ++ []) = locs := by simp
    rw [e3] at hC
    exact hC
end XU
