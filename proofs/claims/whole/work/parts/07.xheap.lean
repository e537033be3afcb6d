/-! Fields, arrays, new cells. -/
def xw_fl (own : String) (idx ci k ft : Nat) : Prop := ∃ q : vw_C, vwCl[ci]? = some q ∧ k < q.2.2 ∧ Cond.fieldLink own idx q.1 (q.2.1 k).2.1 (q.2.1 k).2.2.1 ∈ xw_T ∧ (q.2.1 k).1 = q.1 ∧ xw_ft ci k = ft
theorem xw_fv0 {ft : Nat} (h : ft ≠ 2) (G : xw_G) (x : Int32) (r : Option Nat) : xw_fv ft G x r = .int x := by simp [xw_fv, h]
theorem xw_fv2 (G : xw_G) (x : Int32) (r : Option Nat) : xw_fv 2 G x r = va_rf (r.map (xw_ad G)) := by simp [xw_fv]
theorem xw_bit (x : Int32) : x &&& 1 = 0 ∨ x &&& 1 = 1 := by
  rw [pk_and x 1 (m := 1) (by decide)]
  rcases (by omega : x.toBitVec.toNat % 2 ^ 1 = 0 ∨ x.toBitVec.toNat % 2 ^ 1 = 1) with h | h <;> rw [h]
  · exact Or.inl (by decide)
  · exact Or.inr (by decide)
theorem xw_bitfit (x : Int32) : fits .boolean (.int (x &&& 1)) = true := by
  rcases xw_bit x with h | h <;> rw [h] <;> rfl
section XF
variable {κ : Nat → Nat × Nat} {l : Launch} {M : xw_M} {pc pc' : Nat} {L : List (Option Value)} {S : List Value} {w : xw_W} {n u : Nat} {σ : xs_S} {ρ : xs_R} {E : xw_O × xw_W}
/-- what is known of a field of an object of the world -/
theorem xw_fld {idx i ci k ft : Nat} {G : xw_G} {p : Program} {R : Room} {s : State} {m : MethodId} {args : Array Value} {meth : Method} {c : Code} {H : Heap} (hF : xw_fl M.1.cls idx ci k ft) (hi : i < w.1) (hκ : κ i = (0, ci)) (hS : xw_S κ G l M p R s m args meth c) (hR : xw_R κ G w s H) :
    ∃ (q : vw_C) (cell : Cell) (kC : Class) (cf fi : Nat) (kf : Class) (f : Field), vwCl[ci]? = some q ∧ k < q.2.2 ∧ (Cond.fieldLink M.1.cls idx q.1 (q.2.1 k).2.1 (q.2.1 k).2.2.1).before args s = true ∧ xw_ft ci k = ft ∧
      H[xw_ad G i]? = some cell ∧ cell.cls = G.1.1 ci ∧ cell.vm = .none ∧ (∀ k, k < q.2.2 → cell.slots[G.1.2 ci k]? = some (xw_fv (xw_ft ci k) G (w.2.2.1 i k) (w.2.2.2 i k))) ∧
      s.vm.findClass q.1 = some (G.1.1 ci) ∧ s.vm.classes[G.1.1 ci]? = some kC ∧ kC.kind = .ordinary ∧ s.fieldFound? q.1 (q.2.1 k).2.1 (q.2.1 k).2.2.1 = some (cf, kf, fi, f) ∧ f.slot = G.1.2 ci k ∧ f.isStatic = false ∧
      (∀ x y, x < q.2.2 → y < q.2.2 → x ≠ y → G.1.2 ci x ≠ G.1.2 ci y) := by
  obtain ⟨q, hq, hkN, hl, hd, hft⟩ := hF
  have hts := hS.2.2.2.2.2.2.2.1
  obtain ⟨q', hq', cell, g1, g2, g3, g4⟩ := (hR.1 i hi).1 (by rw [hκ])
  rw [hκ] at hq' g2 g4
  cases hq.symm.trans hq'
  have hK := hR.2.2.2.2.1
  obtain ⟨hSl, hfc, kC, hkC, hkind⟩ := hK.1 ci q hq
  obtain ⟨cf, kf, fi, f, hfi, hsl⟩ := hSl k hkN
  have hin := xw_cl1 ci q hq
  have hst := (u_facts hfc hkC (u_lays hts hin hkN) hfi).1
  rw [hd] at hfi
  have hap := va_apart (own := M.1.cls) (C := q.1) (T := q.2.1) (N := q.2.2) hts hin (xw_fT ci) (xw_cl2 ci q hq) (xw_cl3 ci q hq) hK hq
  exact ⟨q, cell, kC, cf, fi, kf, f, hq, hkN, hts _ hl, hft, g1, g2, g3, g4, hfc, hkC, hkind, hfi, hsl, hst, hap⟩
theorem xw_getI {idx i ci k ft : Nat} (h : xw_dec M.2.1 pc (.getfield idx) 3 pc') (hF : xw_fl M.1.cls idx ci k ft) (hf : ft ≠ 2) (hi : i < n) (hκ : κ i = (0, ci)) (kk : xw_w κ l M pc' L (.int (σ i k) :: S) (n, u, σ, ρ) E) : xw_w κ l M pc L (.ref i :: S) (n, u, σ, ρ) E := by
  obtain ⟨hdg, rfl⟩ := h
  refine xw_s kk fun G p e R s m args below meth c H locs cells slots ls Q hS hR hL kw => ?_
  obtain ⟨q, cell, kC, cf, fi, kf, f, hq, hkN, hl, hft, g1, g2, g3, g4, hfc, hkC, hkind, hfi, hsl, hst, hap⟩ := xw_fld (w := (n, u, σ, ρ)) hF hi hκ hS hR
  refine W.getf hS.1 hS.2.1 hS.2.2.2.2.2.1 hl hfi hst g1 (by rw [g3]; exact fun h => by cases h) (v := .int (σ i k)) ?_ rfl rfl hdg kw
  rw [hsl, g4 k hkN, hft, xw_fv0 hf]
theorem xw_getR {idx i ci k j : Nat} (h : xw_dec M.2.1 pc (.getfield idx) 3 pc') (hF : xw_fl M.1.cls idx ci k 2) (hi : i < n) (hκ : κ i = (0, ci)) (hj : ρ i k = some j) (kk : xw_w κ l M pc' L (.ref j :: S) (n, u, σ, ρ) E) : xw_w κ l M pc L (.ref i :: S) (n, u, σ, ρ) E := by
  obtain ⟨hdg, rfl⟩ := h
  refine xw_s kk fun G p e R s m args below meth c H locs cells slots ls Q hS hR hL kw => ?_
  obtain ⟨q, cell, kC, cf, fi, kf, f, hq, hkN, hl, hft, g1, g2, g3, g4, hfc, hkC, hkind, hfi, hsl, hst, hap⟩ := xw_fld (w := (n, u, σ, ρ)) hF hi hκ hS hR
  refine W.getf hS.1 hS.2.1 hS.2.2.2.2.2.1 hl hfi hst g1 (by rw [g3]; exact fun h => by cases h) (v := .ref (xw_ad G j)) ?_ rfl rfl hdg kw
  rw [hsl, g4 k hkN, hft, xw_fv2]
  show some (va_rf (Option.map (xw_ad G) (ρ i k))) = _
  rw [hj]
  rfl
end XF
section XN
variable {p : Program} {l : Launch} {e : Env} {R : Room} {s : State} {m : MethodId} {args : Array Value} {below : List Frame} {meth : Method} {c : Code} {H : Heap} {locs : List Loc} {cells slots : Nat} {Q : State → Prop}
/-- a field that keeps what 'narrow' leaves -/
theorem xw_Wput {cc : ByteArray} (hexec : p.tables.exec = Jvm.exec) (hb : c.code = cc) {own ref name desc : String} {index : Nat} (hown : s.vm.findClass own = some m.cls) (hlink : (Cond.fieldLink own index ref name desc).before args s = true)
    {cf i : Nat} {k : Class} {f : Field} (hi : s.fieldFound? ref name desc = some (cf, k, i, f)) (hst : f.isStatic = false) (hnf : hasFlag f.accessFlags Acc.final = false)
    {a : Addr} {cell : Cell} {v v' : Value} (hcell : H[a]? = some cell) (hvm : cell.vm = .none) (hlt : f.slot < cell.slots.size) (hnarrow : narrow f.type v = v') (hfit : s.fitsSlot cell.cls .none f.slot v' = true)
    {g : JFrame} (hg : g.method = m) {rest : List Value} (hstack : g.stack = v :: .ref a :: rest) (hdg : decode cc g.pc = .ok (.putfield index, 3))
    (kk : ∀ H' : Heap, H'[a]? = some (cell.setSlot f.slot v') → H'.size = H.size → (∀ q, q ≠ a → H'[q]? = H[q]?) → W p l e R s m args below meth c H' (locs ++ [⟨a, f.slot⟩]) cells slots Q { g with pc := g.pc + 3, stack := rest }) : W p l e R s m args below meth c H locs cells slots Q g := by
  intro T hT X
  subst hT; subst hb
  have ha : a < T.heap.size := (Array.getElem?_eq_some_iff.mp hcell).1
  have hknown : cell.vm ≠ .unknown := by rw [hvm]; exact fun h => by cases h
  have hpl : e.platform.magicAccessors = ({} : Platform).magicAccessors := by rw [X.admits.platform]
  obtain ⟨ci', cfl, k', i', f', hi', hlinks, hright⟩ := Cond.fieldLink_spec hown hlink e.platform hpl
  cases hi.symm.trans hi'
  obtain ⟨hk, hf⟩ := State.fieldFound?_spec hi
  obtain ⟨vm', hgives, hW', hready, hfi⟩ := State.fieldEntry (e := e) X.warmed hlinks hright hk hf
  have X₁ := X.noted hW'
  have hcell₁ : (T.setVm vm').heap[a]? = some cell := hcell
  have ha₁ : a < (T.setVm vm').heap.size := ha
  obtain ⟨t, a1, b1⟩ := kk _ (heapAt_setCell_self (s := T.setVm vm') (cell.setSlot f.slot v') ha₁) (by rw [size_setCell]; rfl) (fun q hq => by rw [heapAt_setCell_ne _ (Ne.symm hq)]; rfl) ((T.setVm vm').setCell a (cell.setSlot f.slot v')) rfl (X₁.stored hcell₁ f.slot v')
  refine ⟨t, ?_, b1⟩
  subst hg
  have hfitT : (T.setVm vm').fitsSlot cell.cls cell.vm f.slot v' = true := by
    rw [hvm]
    show (s.setVm vm').fitsSlot cell.cls .none f.slot v' = true
    rw [State.fitsSlot_setVm hW'.alike]; exact hfit
  jvm_step X.here [hexec, hdg, putfield.wp_cold (e := e) (s := T) (f := g) X.here.top hgives hready hfi,
    putfield.wp_ready (e := e) (s := T.setVm vm') (f := g) X.here.top hready hst hnf hstack hcell₁ hknown, hnarrow, hlt, hfitT]
  exact a1
end XN
section XP
variable {κ : Nat → Nat × Nat} {l : Launch} {M : xw_M} {pc pc' : Nat} {L : List (Option Value)} {S : List Value} {w : xw_W} {n u : Nat} {σ : xs_S} {ρ : xs_R} {E : xw_O × xw_W}
theorem xw_lcs {G : xw_G} {locs : List Loc} {i j : Nat} (h : xw_lc G locs) (hi : 0 < i) : xw_lc G (locs ++ [⟨xw_ad G i, j⟩]) := fun q hq => by
  rcases List.mem_append.mp hq with h1 | h1
  · exact h q h1
  · exact ⟨i, hi, by rw [List.mem_singleton.mp h1]⟩
theorem xw_lays {args : Array Value} {s : State} {ci k : Nat} {q : vw_C} (hq : vwCl[ci]? = some q) (hk : k < q.2.2) (hnf : (q.2.1 k).2.2.2 = false) (hd : (q.2.1 k).1 = q.1) (hts : ∀ w ∈ xw_T, w.before args s = true) : (Cond.lays q.1 q.1 (q.2.1 k).2.1 (q.2.1 k).2.2.1).before args s = true := by
  have h := hts _ (xw_cl1 ci q hq _ (u_in_lay hk))
  unfold u_lay at h
  rw [if_neg (by rw [hnf]; decide), hd] at h
  exact h
/-- the cell behind a store into a field -/
theorem xw_Cput {G : xw_G} {s : State} {H' : Heap} {i ci k : Nat} {q : vw_C} {cell : Cell} {v : Value} {σ' : xs_S} {ρ' : xs_R} (hκ : κ i = (0, ci)) (hq : vwCl[ci]? = some q) (hkN : k < q.2.2) (g2 : cell.cls = G.1.1 ci) (g3 : cell.vm = .none)
    (g4 : ∀ k, k < q.2.2 → cell.slots[G.1.2 ci k]? = some (xw_fv (xw_ft ci k) G (σ i k) (ρ i k))) (hap : ∀ x y, x < q.2.2 → y < q.2.2 → x ≠ y → G.1.2 ci x ≠ G.1.2 ci y)
    (e1 : H'[xw_ad G i]? = some (cell.setSlot (G.1.2 ci k) v)) (hv : xw_fv (xw_ft ci k) G (σ' i k) (ρ' i k) = v) (ho : ∀ j, j ≠ k → σ' i j = σ i j ∧ ρ' i j = ρ i j) : xw_C κ G σ' ρ' s H' i := by
  refine ⟨fun _ => ?_, fun z => (by rw [hκ] at z; cases z), fun z => (by rw [hκ] at z; cases z), fun z => (by rw [hκ] at z; cases z), fun z => (by rw [hκ] at z; have z : 4 ≤ _ := z; simp at z)⟩
  rw [hκ]
  refine ⟨q, hq, cell.setSlot (G.1.2 ci k) v, e1, g2, g3, fun j hj => ?_⟩
  rw [t_set g4 hap hkN v j hj]
  unfold updV
  by_cases hjk : j = k
  · subst hjk
    rw [if_pos rfl]
    show some v = some (xw_fv (xw_ft ci j) G (σ' i j) (ρ' i j))
    rw [hv]
  · rw [if_neg hjk]
    show some (xw_fv (xw_ft ci j) G (σ i j) (ρ i j)) = some (xw_fv (xw_ft ci j) G (σ' i j) (ρ' i j))
    rw [(ho j hjk).1, (ho j hjk).2]
theorem xw_putI {idx i ci k : Nat} {x : Int32} (h : xw_dec M.2.1 pc (.putfield idx) 3 pc') (hF : xw_fl M.1.cls idx ci k 0) (hnf : ∀ q, vwCl[ci]? = some q → (q.2.1 k).2.2.2 = false) (h0 : 0 < i) (hi : i < n) (hκ : κ i = (0, ci))
    (kk : xw_w κ l M pc' L S (n, u, xu_u σ i k x, ρ) E) : xw_w κ l M pc L (.int x :: .ref i :: S) (n, u, σ, ρ) E := by
  obtain ⟨hdg, rfl⟩ := h
  refine ⟨kk.1, fun G p e R s m args below meth c H locs cells slots ls hS hR hL hlo hc hs => ?_⟩
  obtain ⟨q, cell, kC, cf, fi, kf, f, hq, hkN, hl, hft, g1, g2, g3, g4, hfc, hkC, hkind, hfi, hsl, hst, hap⟩ := xw_fld (w := (n, u, σ, ρ)) hF hi hκ hS hR
  have hty : xw_fT ci k = .int := xw_cl4 ci k q hq hkN hft
  have hd : (q.2.1 k).1 = q.1 := by
    obtain ⟨q2, hq2, -, -, hd2, -⟩ := hF
    cases hq.symm.trans hq2
    exact hd2
  have h6 := u_store hfc hkC hkind (xw_lays hq hkN (hnf q hq) hd hS.2.2.2.2.2.2.2.1) hfi (xw_cl2 ci q hq k hkN) (v := .int x) (by rw [hty]; rfl) (by rw [hty]; rfl)
  refine W.putK hS.1 hS.2.1 (f := f) ⟨hS.2.2.2.2.2.1, hl, ⟨_, _, _, hfi⟩, hst⟩ (by rw [g2]; exact h6) g1 g3 (by rw [hsl]; exact k2_hasslot (g4 k hkN)) rfl rfl hdg fun H' e1 e2 e3 => ?_
  rw [hsl] at e1
  refine kk.2 G p e R s m args below meth c H' (locs ++ [⟨xw_ad G i, f.slot⟩]) cells slots ls hS (hR.put hi e2 e3 (xw_Cput hκ hq hkN g2 g3 g4 hap e1 ?_ ?_) (fun j k' hj => xu_ne hj) (fun _ _ _ => rfl)) hL (xw_lcs hlo h0) hc hs
  · rw [hft, xw_fv0 (by decide)]
    simp [xu_u, xw_tv]
  · intro j hj
    exact ⟨by simp [xu_u, hj], rfl⟩
theorem xw_putZ {idx i ci k : Nat} {x : Int32} (h : xw_dec M.2.1 pc (.putfield idx) 3 pc') (hF : xw_fl M.1.cls idx ci k 1) (hnf : ∀ q, vwCl[ci]? = some q → (q.2.1 k).2.2.2 = false) (h0 : 0 < i) (hi : i < n) (hκ : κ i = (0, ci))
    (kk : xw_w κ l M pc' L S (n, u, xu_u σ i k (x &&& 1), ρ) E) : xw_w κ l M pc L (.int x :: .ref i :: S) (n, u, σ, ρ) E := by
  obtain ⟨hdg, rfl⟩ := h
  refine ⟨kk.1, fun G p e R s m args below meth c H locs cells slots ls hS hR hL hlo hc hs => ?_⟩
  obtain ⟨q, cell, kC, cf, fi, kf, f, hq, hkN, hl, hft, g1, g2, g3, g4, hfc, hkC, hkind, hfi, hsl, hst, hap⟩ := xw_fld (w := (n, u, σ, ρ)) hF hi hκ hS hR
  have hty : xw_fT ci k = .boolean := xw_cl5 ci k q hq hkN hft
  have hd : (q.2.1 k).1 = q.1 := by
    obtain ⟨q2, hq2, -, -, hd2, -⟩ := hF
    cases hq.symm.trans hq2
    exact hd2
  have hn1 : narrow .boolean (.int (x &&& 1)) = .int (x &&& 1) := by
    show Value.int (x &&& 1 &&& 1) = _
    rcases xw_bit x with h | h <;> rw [h] <;> rfl
  have h6 := u_store hfc hkC hkind (xw_lays hq hkN (hnf q hq) hd hS.2.2.2.2.2.2.2.1) hfi (xw_cl2 ci q hq k hkN) (v := .int (x &&& 1)) (by rw [hty]; exact hn1) (by rw [hty]; exact xw_bitfit x)
  have hft2 : f.type = .boolean := by rw [(State.fieldFound?_type hfi (xw_cl2 ci q hq k hkN)).2, hty]
  refine xw_Wput hS.1 hS.2.1 hS.2.2.2.2.2.1 hl hfi hst h6.1 g1 g3 (by rw [hsl]; exact k2_hasslot (g4 k hkN)) (v := .int x) (v' := .int (x &&& 1)) (by rw [hft2]; rfl) (by rw [g2]; exact h6.2.2) rfl rfl hdg fun H' e1 e2 e3 => ?_
  rw [hsl] at e1
  refine kk.2 G p e R s m args below meth c H' (locs ++ [⟨xw_ad G i, f.slot⟩]) cells slots ls hS (hR.put hi e2 e3 (xw_Cput hκ hq hkN g2 g3 g4 hap e1 ?_ ?_) (fun j k' hj => xu_ne hj) (fun _ _ _ => rfl)) hL (xw_lcs hlo h0) hc hs
  · rw [hft, xw_fv0 (by decide)]
    simp [xu_u, xw_tv]
  · intro j hj
    exact ⟨by simp [xu_u, hj], rfl⟩
theorem xw_putR {idx i ci k j : Nat} (h : xw_dec M.2.1 pc (.putfield idx) 3 pc') (hF : xw_fl M.1.cls idx ci k 2) (hnf : ∀ q, vwCl[ci]? = some q → (q.2.1 k).2.2.2 = false) (h0 : 0 < i) (hi : i < n) (hκ : κ i = (0, ci))
    (kk : xw_w κ l M pc' L S (n, u, σ, xu_r ρ i k (some j)) E) : xw_w κ l M pc L (.ref j :: .ref i :: S) (n, u, σ, ρ) E := by
  obtain ⟨hdg, rfl⟩ := h
  refine ⟨kk.1, fun G p e R s m args below meth c H locs cells slots ls hS hR hL hlo hc hs => ?_⟩
  obtain ⟨q, cell, kC, cf, fi, kf, f, hq, hkN, hl, hft, g1, g2, g3, g4, hfc, hkC, hkind, hfi, hsl, hst, hap⟩ := xw_fld (w := (n, u, σ, ρ)) hF hi hκ hS hR
  obtain ⟨hty1, hty2⟩ := xw_cl6 ci k q hq hkN hft
  have hd : (q.2.1 k).1 = q.1 := by
    obtain ⟨q2, hq2, -, -, hd2, -⟩ := hF
    cases hq.symm.trans hq2
    exact hd2
  have h6 := u_store hfc hkC hkind (xw_lays hq hkN (hnf q hq) hd hS.2.2.2.2.2.2.2.1) hfi (xw_cl2 ci q hq k hkN) (v := .ref (xw_ad G j)) (hty1 _) (hty2 _)
  refine W.putK hS.1 hS.2.1 (f := f) ⟨hS.2.2.2.2.2.1, hl, ⟨_, _, _, hfi⟩, hst⟩ (by rw [g2]; exact h6) g1 g3 (by rw [hsl]; exact k2_hasslot (g4 k hkN)) rfl rfl hdg fun H' e1 e2 e3 => ?_
  rw [hsl] at e1
  refine kk.2 G p e R s m args below meth c H' (locs ++ [⟨xw_ad G i, f.slot⟩]) cells slots ls hS (hR.put hi e2 e3 (xw_Cput hκ hq hkN g2 g3 g4 hap e1 ?_ ?_) (fun _ _ _ => rfl) (fun j k' hj => xu_rn hj)) hL (xw_lcs hlo h0) hc hs
  · rw [hft, xw_fv2]
    simp [xu_r, va_rf, xw_tv]
  · intro j hj
    exact ⟨rfl, by simp [xu_r, hj]⟩
theorem xw_putF {idx i ci k j : Nat} (h : xw_dec M.2.1 pc (.putfield idx) 3 pc') (hF : xw_fl M.1.cls idx ci k 2) (hnf : ∀ q, vwCl[ci]? = some q → (q.2.1 k).2.2.2 = true ∧ q.1 = M.1.cls) (hin : M.1.name = "<init>") (h0 : 0 < i) (hi : i < n) (hκ : κ i = (0, ci))
    (kk : xw_w κ l M pc' L S (n, u, σ, xu_r ρ i k (some j)) E) : xw_w κ l M pc L (.ref j :: .ref i :: S) (n, u, σ, ρ) E := by
  obtain ⟨hdg, rfl⟩ := h
  refine ⟨kk.1, fun G p e R s m args below meth c H locs cells slots ls hS hR hL hlo hc hs => ?_⟩
  obtain ⟨q, cell, kC, cf, fi, kf, f, hq, hkN, hl, hft, g1, g2, g3, g4, hfc, hkC, hkind, hfi, hsl, hst, hap⟩ := xw_fld (w := (n, u, σ, ρ)) hF hi hκ hS hR
  obtain ⟨hty1, hty2⟩ := xw_cl6 ci k q hq hkN hft
  have hd : (q.2.1 k).1 = q.1 := by
    obtain ⟨q2, hq2, -, -, hd2, -⟩ := hF
    cases hq.symm.trans hq2
    exact hd2
  have hown := hS.2.2.2.2.2.1
  have hlay := hS.2.2.2.2.2.2.2.1 _ (xw_cl1 ci q hq _ (u_in_lay hkN))
  unfold u_lay at hlay
  rw [if_pos (hnf q hq).1, hd] at hlay
  have hcf : m.cls = cf := by
    obtain ⟨_, _, c', _, _, _, -, -, hf', -, -, -, hown2, -⟩ := Cond.laysFinal_spec hlay
    have e1 : c' = cf := by have := hfi.symm.trans hf'; simp at this; exact this.1.symm
    rw [(hnf q hq).2] at hown2
    rw [← e1]; exact Option.some.inj (hown.symm.trans hown2)
  have h6 := u_fits hfc hkC hkind (Or.inr hlay) hfi (xw_cl2 ci q hq k hkN) (v := .ref (xw_ad G j)) (hty1 _) (hty2 _)
  refine W.putFinK hS.1 hS.2.1 hown hl hfi hst hcf (hS.2.2.2.2.2.2.1.trans hin) (by rw [g2]; exact h6) g1 g3 (by rw [hsl]; exact k2_hasslot (g4 k hkN)) rfl rfl hdg fun H' e1 e2 e3 => ?_
  rw [hsl] at e1
  refine kk.2 G p e R s m args below meth c H' (locs ++ [⟨xw_ad G i, f.slot⟩]) cells slots ls hS (hR.put hi e2 e3 (xw_Cput hκ hq hkN g2 g3 g4 hap e1 ?_ ?_) (fun _ _ _ => rfl) (fun j k' hj => xu_rn hj)) hL (xw_lcs hlo h0) hc hs
  · rw [hft, xw_fv2]
    simp [xu_r, va_rf, xw_tv]
  · intro j hj
    exact ⟨rfl, by simp [xu_r, hj]⟩
end XP
section XA
variable {κ : Nat → Nat × Nat} {l : Launch} {M : xw_M} {pc pc' : Nat} {L : List (Option Value)} {S : List Value} {w : xw_W} {n u : Nat} {σ : xs_S} {ρ : xs_R} {E : xw_O × xw_W}
theorem xw_iald {i N j : Nat} {x : Int32} (h : xw_dec M.2.1 pc .iaload 1 pc') (hi : i < n) (hκ : κ i = (1, N)) (hx : vp_in x N) (hj : x.toNatClampNeg = j) (kk : xw_w κ l M pc' L (.int (σ i j) :: S) (n, u, σ, ρ) E) : xw_w κ l M pc L (.int x :: .ref i :: S) (n, u, σ, ρ) E := by
  obtain ⟨hdg, rfl⟩ := h
  subst hj
  refine xw_s kk fun G p e R s m args below meth c H locs cells slots ls Q hS hR hL kw => ?_
  have hcell := (hR.1 i hi).2.1 (by rw [hκ])
  rw [hκ] at hcell
  have hlt : x.toNatClampNeg < N := Nat.not_le.mp fun q => hx (Or.inr q)
  exact W.iald (v := .int (σ i x.toNatClampNeg)) hS.1 hS.2.1 hcell ((hR.2.2.2.2.1.2 0 _ rfl).1 N _) (fun q => by cases q) (by rw [arrV_size]; exact hx) (by rw [arrV_read _ _ hlt]) rfl rfl hdg kw
theorem xw_zald {i N j : Nat} {x : Int32} (h : xw_dec M.2.1 pc .baload 1 pc') (hi : i < n) (hκ : κ i = (2, N)) (hx : vp_in x N) (hj : x.toNatClampNeg = j) (kk : xw_w κ l M pc' L (.int (σ i j) :: S) (n, u, σ, ρ) E) : xw_w κ l M pc L (.int x :: .ref i :: S) (n, u, σ, ρ) E := by
  obtain ⟨hdg, rfl⟩ := h
  subst hj
  refine xw_s kk fun G p e R s m args below meth c H locs cells slots ls Q hS hR hL kw => ?_
  have hcell := (hR.1 i hi).2.2.1 (by rw [hκ])
  rw [hκ] at hcell
  have hlt : x.toNatClampNeg < N := Nat.not_le.mp fun q => hx (Or.inr q)
  exact W.zald (v := .int (σ i x.toNatClampNeg)) hS.1 hS.2.1 hcell ((hR.2.2.2.2.1.2 1 _ rfl).1 N _) (fun q => by cases q) (by rw [arrV_size]; exact hx) (by rw [arrV_read _ _ hlt]) rfl rfl hdg kw
theorem xw_sald {i N j : Nat} {x : Int32} (h : xw_dec M.2.1 pc .iaload 1 pc') (hi : i < n) (hκ : κ i = (3, N)) (hx : vp_in x N) (hj : x.toNatClampNeg = j) (kk : xw_w κ l M pc' L (.int (σ i j) :: S) (n, u, σ, ρ) E) : xw_w κ l M pc L (.int x :: .ref i :: S) (n, u, σ, ρ) E := by
  obtain ⟨hdg, rfl⟩ := h
  subst hj
  refine xw_s kk fun G p e R s m args below meth c H locs cells slots ls Q hS hR hL kw => ?_
  obtain ⟨scr, h1, h2, h3, h4, h5⟩ := (hR.1 i hi).2.2.2.1 (by rw [hκ])
  rw [hκ] at h4 h5
  have hlt : x.toNatClampNeg < N := Nat.not_le.mp fun q => hx (Or.inr q)
  exact W.iald (v := .int (σ i x.toNatClampNeg)) hS.1 hS.2.1 h1 h2 h3 (by rw [h4]; exact hx) (h5 _ hlt) rfl rfl hdg kw
theorem xw_slen {i N : Nat} (h : xw_dec M.2.1 pc .arraylength 1 pc') (hi : i < n) (hκ : κ i = (3, N)) (kk : xw_w κ l M pc' L (.int (Int32.ofNat N) :: S) (n, u, σ, ρ) E) : xw_w κ l M pc L (.ref i :: S) (n, u, σ, ρ) E := by
  obtain ⟨hdg, rfl⟩ := h
  refine xw_s kk fun G p e R s m args below meth c H locs cells slots ls Q hS hR hL kw => ?_
  obtain ⟨scr, h1, h2, h3, h4, h5⟩ := (hR.1 i hi).2.2.2.1 (by rw [hκ])
  rw [hκ] at h4
  exact W.alen (n := Int32.ofNat N) hS.1 hS.2.1 h1 h2 (by rw [h4] <;> rfl) rfl rfl hdg kw
theorem xw_arrput {i N j : Nat} {x : Int32} {cA : ClassId} : (arrV cA N (fun k => .int (σ i k))).setSlot j (.int x) = arrV cA N (fun k => .int (xu_u σ i j x i k)) := by
  rw [arrV_store]
  congr 1
  funext k
  by_cases hk : k = j
  · subst hk; simp [updV, xu_u]
  · simp [updV, xu_u, hk]
theorem xw_iast {i N j : Nat} {x y : Int32} (h : xw_dec M.2.1 pc .iastore 1 pc') (h0 : 0 < i) (hi : i < n) (hκ : κ i = (1, N)) (hx : vp_in x N) (hj : x.toNatClampNeg = j) (kk : xw_w κ l M pc' L S (n, u, xu_u σ i j y, ρ) E) : xw_w κ l M pc L (.int y :: .int x :: .ref i :: S) (n, u, σ, ρ) E := by
  obtain ⟨hdg, rfl⟩ := h
  subst hj
  refine ⟨kk.1, fun G p e R s m args below meth c H locs cells slots ls hS hR hL hlo hc hs => ?_⟩
  have hcell := (hR.1 i hi).2.1 (by rw [hκ])
  rw [hκ] at hcell
  refine W.iast hS.1 hS.2.1 hcell ((hR.2.2.2.2.1.2 0 _ rfl).1 N _) (fun q => by cases q) (by rw [arrV_size]; exact hx) rfl rfl hdg fun H' e1 e2 e3 => ?_
  rw [xw_arrput] at e1
  refine kk.2 G p e R s m args below meth c H' (locs ++ [⟨xw_ad G i, x.toNatClampNeg⟩]) cells slots ls hS (hR.put hi e2 e3 ?_ (fun j k' hj => xu_ne hj) (fun _ _ _ => rfl)) hL (xw_lcs hlo h0) hc hs
  refine ⟨fun z => (by rw [hκ] at z; cases z), fun _ => (by rw [hκ]; exact e1), fun z => (by rw [hκ] at z; cases z), fun z => (by rw [hκ] at z; cases z), fun z => (by rw [hκ] at z; have z : 4 ≤ _ := z; simp at z)⟩
theorem xw_zast {i N j : Nat} {x y : Int32} (h : xw_dec M.2.1 pc .bastore 1 pc') (h0 : 0 < i) (hi : i < n) (hκ : κ i = (2, N)) (hx : vp_in x N) (hj : x.toNatClampNeg = j) (kk : xw_w κ l M pc' L S (n, u, xu_u σ i j (y &&& 1), ρ) E) : xw_w κ l M pc L (.int y :: .int x :: .ref i :: S) (n, u, σ, ρ) E := by
  obtain ⟨hdg, rfl⟩ := h
  subst hj
  refine ⟨kk.1, fun G p e R s m args below meth c H locs cells slots ls hS hR hL hlo hc hs => ?_⟩
  have hcell := (hR.1 i hi).2.2.1 (by rw [hκ])
  rw [hκ] at hcell
  refine W.zast hS.1 hS.2.1 hcell ((hR.2.2.2.2.1.2 1 _ rfl).1 N _) (fun q => by cases q) (by rw [arrV_size]; exact hx) rfl rfl hdg fun H' e1 e2 e3 => ?_
  have e1 : H'[xw_ad G i]? = some ((arrV G.2.1.2.1 N (fun k => .int (σ i k))).setSlot x.toNatClampNeg (.int (y &&& 1))) := e1
  rw [xw_arrput] at e1
  refine kk.2 G p e R s m args below meth c H' (locs ++ [⟨xw_ad G i, x.toNatClampNeg⟩]) cells slots ls hS (hR.put hi e2 e3 ?_ (fun j k' hj => xu_ne hj) (fun _ _ _ => rfl)) hL (xw_lcs hlo h0) hc hs
  refine ⟨fun z => (by rw [hκ] at z; cases z), fun z => (by rw [hκ] at z; cases z), fun _ => (by rw [hκ]; exact e1), fun z => (by rw [hκ] at z; cases z), fun z => (by rw [hκ] at z; have z : 4 ≤ _ := z; simp at z)⟩
theorem xw_new {idx ci N : Nat} {C : String} {T : u_T} (h : xw_dec M.2.1 pc (.new idx) 3 pc') (hq : vwCl[ci]? = some (C, T, N)) (hcl : Cond.classLink M.1.cls idx C ∈ xw_T) (hins : Cond.instantiable C N ∈ xw_T) (hini : Cond.initialized C ∈ xw_T) (hκ : κ n = (0, ci))
    (kk : xw_w κ l M pc' L (.ref n :: S) (n + 1, u + N, xu_z σ n, xu_n ρ n) E) : xw_w κ l M pc L S (n, u, σ, ρ) E := by
  obtain ⟨hdg, rfl⟩ := h
  have hm1 : n + 1 ≤ E.2.1 := kk.1.1
  have hm2 : u + N ≤ E.2.2.1 := kk.1.2
  refine ⟨⟨Nat.le_of_succ_le hm1, Nat.le_trans (Nat.le_add_right _ _) hm2⟩, fun G p e R s m args below meth c H locs cells slots ls hS hR hL hlo hc hs => ?_⟩
  have hts := hS.2.2.2.2.2.2.2.1
  have hKn := hR.2.2.2.2.1.1 ci _ hq
  have hc : cells + (E.2.1 - n) ≤ R.cells := hc
  have hs : slots + (E.2.2.1 - u) ≤ R.slots := hs
  refine W.newcK hS.1 hS.2.1 hS.2.2.2.2.2.1 (hts _ hcl) (hts _ hins) (hts _ hini) rfl hdg (by omega) (by omega) hKn.2.1 hR.next fun H' kC hkC e1 z1 o1 => ?_
  have e4 : cells + 1 + (E.2.1 - (n + 1)) = cells + (E.2.1 - n) := by omega
  have e5 : slots + N + (E.2.2.1 - (u + N)) = slots + (E.2.2.1 - u) := by omega
  have hRn : xw_R κ G (n + 1, u + N, xu_z σ n, xu_n ρ n) s H' := by
    refine hR.new (by rw [z1, ← hR.next]) (fun q hq => o1 q (by rw [← hR.next]; exact hq)) ?_ (fun j k hj => xu_zn hj) (fun j k hj => xu_nn hj)
    refine ⟨fun _ => ?_, fun z => (by rw [hκ] at z; cases z), fun z => (by rw [hκ] at z; cases z), fun z => (by rw [hκ] at z; cases z), fun z => (by rw [hκ] at z; have z : 4 ≤ _ := z; simp at z)⟩
    rw [hκ]
    refine ⟨(C, T, N), hq, (u_born (xw_fT ci) hts (xw_cl1 ci _ hq) hKn hkC e1 (xw_cl2 ci _ hq)).to fun k hk => ?_⟩
    rw [xu_zz, xu_nz]
    exact xw_cl7 ci k _ hq hk G
  have kW := kk.2 G p e R s m args below meth c H' locs (cells + 1) (slots + N) ls hS hRn hL hlo (show cells + 1 + (E.2.1 - (n + 1)) ≤ R.cells by omega) (show slots + N + (E.2.2.1 - (u + N)) ≤ R.slots by omega)
  have kW : W p l e R s m args below meth c H' locs (cells + 1) (slots + N) (xw_Q κ G below s E (cells + 1 + (E.2.1 - (n + 1))) (slots + N + (E.2.2.1 - (u + N)))) (F0 m (pc + 3) ls (.ref (xw_ad G n) :: S.map (xw_tv G))) := kW
  rw [e4, e5] at kW
  exact kW
theorem xw_newa {x : Int32} {N : Nat} {at0 : ArrayType} {j : Nat} {ty : FieldType} (h : xw_dec M.2.1 pc (.newarray at0) 2 pc') (hty : newarray.typeOf at0 = ty) (hj : (j = 1 ∧ ty = .int) ∨ (j = 2 ∧ ty = .boolean)) (harr : Cond.arrayClass ty ∈ xw_T) (hx : ¬ x < 0) (hN : x.toNatClampNeg = N) (hbytes : N * componentBytes ty ≤ 536870912) (hκ : κ n = (j, N))
    (kk : xw_w κ l M pc' L (.ref n :: S) (n + 1, u + N, xu_z σ n, xu_n ρ n) E) : xw_w κ l M pc L (.int x :: S) (n, u, σ, ρ) E := by
  obtain ⟨hdg, rfl⟩ := h
  subst hty
  have hm1 : n + 1 ≤ E.2.1 := kk.1.1
  have hm2 : u + N ≤ E.2.2.1 := kk.1.2
  refine ⟨⟨Nat.le_of_succ_le hm1, Nat.le_trans (Nat.le_add_right _ _) hm2⟩, fun G p e R s m args below meth c H locs cells slots ls hS hR hL hlo hc hs => ?_⟩
  have hts := hS.2.2.2.2.2.2.2.1
  have hc : cells + (E.2.1 - n) ≤ R.cells := hc
  have hs : slots + (E.2.2.1 - u) ≤ R.slots := hs
  refine va_newaK hS.1 hS.2.1 (hts _ harr) rfl hdg rfl hx hN hbytes (by omega) (by omega) hR.next fun H' cA e1 z1 o1 hAr hNm => ?_
  have e4 : cells + 1 + (E.2.1 - (n + 1)) = cells + (E.2.1 - n) := by omega
  have e5 : slots + N + (E.2.2.1 - (u + N)) = slots + (E.2.2.1 - u) := by omega
  have hRn : xw_R κ G (n + 1, u + N, xu_z σ n, xu_n ρ n) s H' := by
    refine hR.new (by rw [z1, ← hR.next]) (fun q hq => o1 q (by rw [← hR.next]; exact hq)) ?_ (fun j k hj => xu_zn hj) (fun j k hj => xu_nn hj)
    rcases hj with ⟨rfl, hty⟩ | ⟨rfl, hty⟩
    · have hA : G.2.1.1 = cA := by
        have h1 := (hR.2.2.2.2.1.2 0 _ rfl).2
        rw [hty] at hNm
        exact Option.some.inj (h1.symm.trans hNm)
      refine ⟨fun z => (by rw [hκ] at z; cases z), fun _ => ?_, fun z => (by rw [hκ] at z; cases z), fun z => (by rw [hκ] at z; cases z), fun z => (by rw [hκ] at z; have z : 4 ≤ _ := z; simp at z)⟩
      rw [hκ, hA, e1, hty]
      congr 2
      funext k
      rw [xu_zz]
      rfl
    · have hA : G.2.1.2.1 = cA := by
        have h1 := (hR.2.2.2.2.1.2 1 _ rfl).2
        rw [hty] at hNm
        exact Option.some.inj (h1.symm.trans hNm)
      refine ⟨fun z => (by rw [hκ] at z; cases z), fun z => (by rw [hκ] at z; cases z), fun _ => ?_, fun z => (by rw [hκ] at z; cases z), fun z => (by rw [hκ] at z; have z : 4 ≤ _ := z; simp at z)⟩
      rw [hκ, hA, e1, hty]
      congr 2
      funext k
      rw [xu_zz]
      rfl
  have kW := kk.2 G p e R s m args below meth c H' locs (cells + 1) (slots + N) ls hS hRn hL hlo (show cells + 1 + (E.2.1 - (n + 1)) ≤ R.cells by omega) (show slots + N + (E.2.2.1 - (u + N)) ≤ R.slots by omega)
  have kW : W p l e R s m args below meth c H' locs (cells + 1) (slots + N) (xw_Q κ G below s E (cells + 1 + (E.2.1 - (n + 1))) (slots + N + (E.2.2.1 - (u + N)))) (F0 m (pc + 2) ls (.ref (xw_ad G n) :: S.map (xw_tv G))) := kW
  rw [e4, e5] at kW
  exact kW
/-- Object.<init> -/
theorem xw_obj {idx i : Nat} (h : xw_dec M.2.1 pc (.invokespecial idx) 3 pc') (hl : Cond.methodLink M.1.cls idx Lib.objectInit ∈ xw_T) (hin : Cond.instanceMethod Lib.objectInit ∈ xw_T) (hcd : Cond.code Lib.objectInit ⟨#[0xb1]⟩ 1 none ∈ xw_T) (hr : 1 ≤ M.2.2.2.2.2.1 ∧ (S.map fun v => v.category).sum + 12 ≤ M.2.2.2.2.2.2)
    (kk : xw_w κ l M pc' L S w E) : xw_w κ l M pc L (.ref i :: S) w E := by
  obtain ⟨hdg, rfl⟩ := h
  refine xw_s kk fun G p e R s m args below meth c H locs cells slots ls Q hS hR hL kw => ?_
  obtain ⟨hexec, hbc, hmx, hrt, hlk0, hown, hnm, hts, htr, htab, ⟨hRf, hRl⟩, hw0⟩ := id hS
  refine W.objInit hexec hbc hown (hts _ hl) (hts _ hin) (hts _ hcd) rfl (hL.1.trans hmx.symm) rfl hdg (by rw [hRf]; exact hr.1) ?_ kw
  show 2 * 0 + ((S.map (xw_tv G)).map fun v => v.category).sum + 12 ≤ R.locals
  rw [xw_tv_sum, hRl]
  have := hr.2
  omega
end XA
