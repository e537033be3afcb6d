/-! One instruction, a row: locals, stack, numbers, branches. -/
def xl_l {α β : Type} (x : α) (f : α → β) : β := f x
def xo_b : Option Value → Bool
  | none => true
  | some v => v.category == 1
theorem xo_1 {o : Option Value} (h : xo_b o = true) : ∀ u, o = some u → u.category = 1 := by
  intro u hu
  subst hu
  simpa [xo_b] using h
theorem xo_set {nL : Nat} {G : xw_G} {L : List (Option Value)} {i : Nat} {v : Value} {ls' : Array Slot} (hi : i < L.length) (hc : ∀ j u, j + 1 = i → L[j]? = some (some u) → u.category = 1)
    (h : lv_has ls' nL ((i, xw_tv G v) :: ((xw_la 0 L).map fun q => (q.1, xw_tv G q.2)).filter (fun q => !(q.1 == i) && !(q.1 + 1 == i && q.2.category == 2)))) : xw_L nL G (L.set i (some v)) ls' := by
  refine xw_L.sub h fun j u hj => ?_
  by_cases hji : j = i
  · subst hji
    rw [List.getElem?_set_self hi] at hj
    have e : v = u := by simpa using hj
    rw [e]
    exact List.mem_cons_self
  · rw [List.getElem?_set_ne (Ne.symm hji)] at hj
    refine List.mem_cons_of_mem _ (List.mem_filter.mpr ⟨List.mem_map.mpr ⟨(j, u), (xw_la_mem L 0 (j, u)).mpr ⟨j, by simp, hj⟩, rfl⟩, ?_⟩)
    have h1 : (j == i) = false := by simp [hji]
    by_cases h2 : j + 1 = i
    · have h3 := hc j u h2 hj
      simp [hji, xw_tv_cat, h3]
    · simp [hji, h2]
theorem xo_set2 {nL : Nat} {G : xw_G} {L : List (Option Value)} {i : Nat} {v : Value} {ls' : Array Slot} (hi : i + 1 < L.length) (hc : ∀ j u, j + 1 = i → L[j]? = some (some u) → u.category = 1)
    (h : lv_has ls' nL ((i, xw_tv G v) :: ((xw_la 0 L).map fun q => (q.1, xw_tv G q.2)).filter (fun q => !(q.1 == i) && (!(q.1 == i + 1) && !(q.1 + 1 == i && q.2.category == 2))))) : xw_L nL G ((L.set i (some v)).set (i + 1) none) ls' := by
  refine xw_L.sub h fun j u hj => ?_
  by_cases hj2 : j = i + 1
  · subst hj2
    rw [List.getElem?_set_self (by simpa using hi)] at hj
    simp at hj
  · rw [List.getElem?_set_ne (Ne.symm hj2)] at hj
    by_cases hji : j = i
    · subst hji
      rw [List.getElem?_set_self (by omega)] at hj
      have e : v = u := by simpa using hj
      rw [e]
      exact List.mem_cons_self
    · rw [List.getElem?_set_ne (Ne.symm hji)] at hj
      refine List.mem_cons_of_mem _ (List.mem_filter.mpr ⟨List.mem_map.mpr ⟨(j, u), (xw_la_mem L 0 (j, u)).mpr ⟨j, by simp, hj⟩, rfl⟩, ?_⟩)
      by_cases h2 : j + 1 = i
      · have h3 := hc j u h2 hj
        simp [hji, hj2, xw_tv_cat, h3]
      · simp [hji, hj2, h2]
section XI
variable {κ : Nat → Nat × Nat} {l : Launch} {M : xw_M} {pc pc' : Nat} {L : List (Option Value)} {S : List Value} {w : xw_W} {E : xw_O × xw_W}
theorem xw_istoreG {i : Nat} {x : Int32} {ins : Instr} {len : Nat} (h : xw_dec M.2.1 pc ins len pc') (hins : (∃ k : Fin 4, (k : Nat) = i ∧ ins = .istore_n k ∧ len = 1) ∨ (ins = .istore i ∧ len = 2)) (hn : i < M.2.2.1) (hi : i < L.length) (hc : ∀ j u, j + 1 = i → L[j]? = some (some u) → u.category = 1)
    (k : xw_w κ l M pc' (L.set i (some (.int x))) S w E) : xw_w κ l M pc L (.int x :: S) w E := by
  obtain ⟨hdg, rfl⟩ := h
  refine ⟨k.1, fun G p e R s m args below meth c H locs cells slots ls hS hR hL hlo hcc hs => ?_⟩
  rcases hins with ⟨kk, hk, rfl, rfl⟩ | ⟨rfl, rfl⟩
  · exact lv_istore_n hS.1 hS.2.1 hdg hk hL hn rfl fun ls' h' => k.2 G p e R s m args below meth c H locs cells slots ls' hS hR (xo_set (v := .int x) hi hc h') hlo hcc hs
  · exact lv_istore hS.1 hS.2.1 hdg hL hn rfl fun ls' h' => k.2 G p e R s m args below meth c H locs cells slots ls' hS hR (xo_set (v := .int x) hi hc h') hlo hcc hs
theorem xw_astoreG {i : Nat} {x : Nat} {ins : Instr} {len : Nat} (h : xw_dec M.2.1 pc ins len pc') (hins : (∃ k : Fin 4, (k : Nat) = i ∧ ins = .astore_n k ∧ len = 1) ∨ (ins = .astore i ∧ len = 2)) (hn : i < M.2.2.1) (hi : i < L.length) (hc : ∀ j u, j + 1 = i → L[j]? = some (some u) → u.category = 1)
    (k : xw_w κ l M pc' (L.set i (some (.ref x))) S w E) : xw_w κ l M pc L (.ref x :: S) w E := by
  obtain ⟨hdg, rfl⟩ := h
  refine ⟨k.1, fun G p e R s m args below meth c H locs cells slots ls hS hR hL hlo hcc hs => ?_⟩
  rcases hins with ⟨kk, hk, rfl, rfl⟩ | ⟨rfl, rfl⟩
  · exact lv_astore_n hS.1 hS.2.1 hdg hk hL hn rfl fun ls' h' => k.2 G p e R s m args below meth c H locs cells slots ls' hS hR (xo_set (v := .ref x) hi hc h') hlo hcc hs
  · exact lv_astore hS.1 hS.2.1 hdg hL hn rfl fun ls' h' => k.2 G p e R s m args below meth c H locs cells slots ls' hS hR (xo_set (v := .ref x) hi hc h') hlo hcc hs
theorem xw_lstoreG {i : Nat} {x : Int64} {kk : Fin 4} (h : xw_dec M.2.1 pc (.lstore_n kk) 1 pc') (hk : (kk : Nat) = i) (hn : i + 1 < M.2.2.1) (hi : i + 1 < L.length) (hc : ∀ j u, j + 1 = i → L[j]? = some (some u) → u.category = 1)
    (k : xw_w κ l M pc' ((L.set i (some (.long x))).set (i + 1) none) S w E) : xw_w κ l M pc L (.long x :: S) w E := by
  obtain ⟨hdg, rfl⟩ := h
  refine ⟨k.1, fun G p e R s m args below meth c H locs cells slots ls hS hR hL hlo hcc hs => ?_⟩
  exact lv_lstore_n hS.1 hS.2.1 hdg hk hL hn rfl fun ls' h' => k.2 G p e R s m args below meth c H locs cells slots ls' hS hR (xo_set2 (v := .long x) hi hc h') hlo hcc hs
theorem xw_iincG {i : Nat} {n : Int} {x v : Int32} (h : xw_dec M.2.1 pc (.iinc i n) 3 pc') (hv : x + Int32.ofInt n = v) (hn : i < M.2.2.1) (hi : i < L.length) (hx : L[i]? = some (some (.int x))) (hc : ∀ j u, j + 1 = i → L[j]? = some (some u) → u.category = 1)
    (k : xw_w κ l M pc' (L.set i (some (.int v))) S w E) : xw_w κ l M pc L S w E := by
  obtain ⟨hdg, rfl⟩ := h
  refine ⟨k.1, fun G p e R s m args below meth c H locs cells slots ls hS hR hL hlo hcc hs => ?_⟩
  obtain ⟨kk, hkk⟩ := List.getElem?_of_mem (l := (xw_la 0 L).map fun q => (q.1, xw_tv G q.2)) (a := (i, .int x)) (List.mem_map.mpr ⟨(i, .int x), (xw_la_mem L 0 (i, .int x)).mpr ⟨i, by simp, hx⟩, rfl⟩)
  exact lv_iinc hS.1 hS.2.1 hdg hL hkk hv hn rfl fun ls' h' => k.2 G p e R s m args below meth c H locs cells slots ls' hS hR (xo_set (v := .int v) hi hc h') hlo hcc hs
theorem xo_c0 : ∀ j u, j + 1 = 0 → L[j]? = some (some u) → Value.category u = 1 := fun j u h => by omega
theorem xw_iload0 {x : Int32} {t : List (Option Value)} (h : xw_dec M.2.1 pc (.iload_n 0) 1 pc') (k : xw_w κ l M pc' (some (.int x) :: t) (.int x :: S) w E) : xw_w κ l M pc (some (.int x) :: t) S w E := by
  obtain ⟨hdg, rfl⟩ := h
  exact xw_s k fun G p e R s m args below meth c H locs cells slots ls Q hS hR hL kw => lv_iload_n hS.1 hS.2.1 hdg rfl (hL.get (i := 0) (v := .int x) rfl) kw
theorem xw_istore0 {x : Int32} {d : Option Value} {t : List (Option Value)} (h : xw_dec M.2.1 pc (.istore_n 0) 1 pc') (hn : 0 < M.2.2.1) (k : xw_w κ l M pc' (some (.int x) :: t) S w E) : xw_w κ l M pc (d :: t) (.int x :: S) w E :=
  xw_istoreG (i := 0) h (Or.inl ⟨0, rfl, rfl, rfl⟩) hn (by simp) xo_c0 k
theorem xw_iinc0 {n : Int} {x v : Int32} {t : List (Option Value)} (h : xw_dec M.2.1 pc (.iinc 0 n) 3 pc') (hv : x + Int32.ofInt n = v) (hn : 0 < M.2.2.1) (k : xw_w κ l M pc' (some (.int v) :: t) S w E) : xw_w κ l M pc (some (.int x) :: t) S w E :=
  xw_iincG (i := 0) h hv hn (by simp) rfl xo_c0 k
theorem xw_aload0 {x : Nat} {t : List (Option Value)} (h : xw_dec M.2.1 pc (.aload_n 0) 1 pc') (k : xw_w κ l M pc' (some (.ref x) :: t) (.ref x :: S) w E) : xw_w κ l M pc (some (.ref x) :: t) S w E := by
  obtain ⟨hdg, rfl⟩ := h
  exact xw_s k fun G p e R s m args below meth c H locs cells slots ls Q hS hR hL kw => lv_aload_n hS.1 hS.2.1 hdg rfl (hL.get (i := 0) (v := .ref x) rfl) kw
theorem xw_astore0 {x : Nat} {d : Option Value} {t : List (Option Value)} (h : xw_dec M.2.1 pc (.astore_n 0) 1 pc') (hn : 0 < M.2.2.1) (k : xw_w κ l M pc' (some (.ref x) :: t) S w E) : xw_w κ l M pc (d :: t) (.ref x :: S) w E :=
  xw_astoreG (i := 0) h (Or.inl ⟨0, rfl, rfl, rfl⟩) hn (by simp) xo_c0 k
theorem xw_lload0 {x : Int64} {t : List (Option Value)} (h : xw_dec M.2.1 pc (.lload_n 0) 1 pc') (k : xw_w κ l M pc' (some (.long x) :: t) (.long x :: S) w E) : xw_w κ l M pc (some (.long x) :: t) S w E := by
  obtain ⟨hdg, rfl⟩ := h
  exact xw_s k fun G p e R s m args below meth c H locs cells slots ls Q hS hR hL kw => lv_lload_n hS.1 hS.2.1 hdg rfl (hL.get (i := 0) (v := .long x) rfl) kw
theorem xw_lstore0 {x : Int64} {d d2 : Option Value} {t : List (Option Value)} (h : xw_dec M.2.1 pc (.lstore_n 0) 1 pc') (hn : 1 < M.2.2.1) (k : xw_w κ l M pc' (some (.long x) :: none :: t) S w E) : xw_w κ l M pc (d :: d2 :: t) (.long x :: S) w E :=
  xw_lstoreG (i := 0) h rfl hn (by simp) xo_c0 k
theorem xw_iload1 {x : Int32} {o0 : Option Value} {t : List (Option Value)} (h : xw_dec M.2.1 pc (.iload_n 1) 1 pc') (k : xw_w κ l M pc' (o0 :: some (.int x) :: t) (.int x :: S) w E) : xw_w κ l M pc (o0 :: some (.int x) :: t) S w E := by
  obtain ⟨hdg, rfl⟩ := h
  exact xw_s k fun G p e R s m args below meth c H locs cells slots ls Q hS hR hL kw => lv_iload_n hS.1 hS.2.1 hdg rfl (hL.get (i := 1) (v := .int x) rfl) kw
theorem xw_istore1 {x : Int32} {o0 : Option Value} {d : Option Value} {t : List (Option Value)} (h : xw_dec M.2.1 pc (.istore_n 1) 1 pc') (hn : 1 < M.2.2.1) (ho : xo_b o0 = true) (k : xw_w κ l M pc' (o0 :: some (.int x) :: t) S w E) : xw_w κ l M pc (o0 :: d :: t) (.int x :: S) w E :=
  xw_istoreG (i := 1) h (Or.inl ⟨1, rfl, rfl, rfl⟩) hn (by simp) (fun j u hj hu => xo_1 ho u (by
    have e : j = 0 := by omega
    subst e
    simpa using hu)) k
theorem xw_iinc1 {n : Int} {x v : Int32} {o0 : Option Value} {t : List (Option Value)} (h : xw_dec M.2.1 pc (.iinc 1 n) 3 pc') (hv : x + Int32.ofInt n = v) (hn : 1 < M.2.2.1) (ho : xo_b o0 = true) (k : xw_w κ l M pc' (o0 :: some (.int v) :: t) S w E) : xw_w κ l M pc (o0 :: some (.int x) :: t) S w E :=
  xw_iincG (i := 1) h hv hn (by simp) rfl (fun j u hj hu => xo_1 ho u (by
    have e : j = 0 := by omega
    subst e
    simpa using hu)) k
theorem xw_aload1 {x : Nat} {o0 : Option Value} {t : List (Option Value)} (h : xw_dec M.2.1 pc (.aload_n 1) 1 pc') (k : xw_w κ l M pc' (o0 :: some (.ref x) :: t) (.ref x :: S) w E) : xw_w κ l M pc (o0 :: some (.ref x) :: t) S w E := by
  obtain ⟨hdg, rfl⟩ := h
  exact xw_s k fun G p e R s m args below meth c H locs cells slots ls Q hS hR hL kw => lv_aload_n hS.1 hS.2.1 hdg rfl (hL.get (i := 1) (v := .ref x) rfl) kw
theorem xw_astore1 {x : Nat} {o0 : Option Value} {d : Option Value} {t : List (Option Value)} (h : xw_dec M.2.1 pc (.astore_n 1) 1 pc') (hn : 1 < M.2.2.1) (ho : xo_b o0 = true) (k : xw_w κ l M pc' (o0 :: some (.ref x) :: t) S w E) : xw_w κ l M pc (o0 :: d :: t) (.ref x :: S) w E :=
  xw_astoreG (i := 1) h (Or.inl ⟨1, rfl, rfl, rfl⟩) hn (by simp) (fun j u hj hu => xo_1 ho u (by
    have e : j = 0 := by omega
    subst e
    simpa using hu)) k
theorem xw_lload1 {x : Int64} {o0 : Option Value} {t : List (Option Value)} (h : xw_dec M.2.1 pc (.lload_n 1) 1 pc') (k : xw_w κ l M pc' (o0 :: some (.long x) :: t) (.long x :: S) w E) : xw_w κ l M pc (o0 :: some (.long x) :: t) S w E := by
  obtain ⟨hdg, rfl⟩ := h
  exact xw_s k fun G p e R s m args below meth c H locs cells slots ls Q hS hR hL kw => lv_lload_n hS.1 hS.2.1 hdg rfl (hL.get (i := 1) (v := .long x) rfl) kw
theorem xw_lstore1 {x : Int64} {o0 : Option Value} {d d2 : Option Value} {t : List (Option Value)} (h : xw_dec M.2.1 pc (.lstore_n 1) 1 pc') (hn : 2 < M.2.2.1) (ho : xo_b o0 = true) (k : xw_w κ l M pc' (o0 :: some (.long x) :: none :: t) S w E) : xw_w κ l M pc (o0 :: d :: d2 :: t) (.long x :: S) w E :=
  xw_lstoreG (i := 1) h rfl hn (by simp) (fun j u hj hu => xo_1 ho u (by
    have e : j = 0 := by omega
    subst e
    simpa using hu)) k
theorem xw_iload2 {x : Int32} {o0 o1 : Option Value} {t : List (Option Value)} (h : xw_dec M.2.1 pc (.iload_n 2) 1 pc') (k : xw_w κ l M pc' (o0 :: o1 :: some (.int x) :: t) (.int x :: S) w E) : xw_w κ l M pc (o0 :: o1 :: some (.int x) :: t) S w E := by
  obtain ⟨hdg, rfl⟩ := h
  exact xw_s k fun G p e R s m args below meth c H locs cells slots ls Q hS hR hL kw => lv_iload_n hS.1 hS.2.1 hdg rfl (hL.get (i := 2) (v := .int x) rfl) kw
theorem xw_istore2 {x : Int32} {o0 o1 : Option Value} {d : Option Value} {t : List (Option Value)} (h : xw_dec M.2.1 pc (.istore_n 2) 1 pc') (hn : 2 < M.2.2.1) (ho : xo_b o1 = true) (k : xw_w κ l M pc' (o0 :: o1 :: some (.int x) :: t) S w E) : xw_w κ l M pc (o0 :: o1 :: d :: t) (.int x :: S) w E :=
  xw_istoreG (i := 2) h (Or.inl ⟨2, rfl, rfl, rfl⟩) hn (by simp) (fun j u hj hu => xo_1 ho u (by
    have e : j = 1 := by omega
    subst e
    simpa using hu)) k
theorem xw_iinc2 {n : Int} {x v : Int32} {o0 o1 : Option Value} {t : List (Option Value)} (h : xw_dec M.2.1 pc (.iinc 2 n) 3 pc') (hv : x + Int32.ofInt n = v) (hn : 2 < M.2.2.1) (ho : xo_b o1 = true) (k : xw_w κ l M pc' (o0 :: o1 :: some (.int v) :: t) S w E) : xw_w κ l M pc (o0 :: o1 :: some (.int x) :: t) S w E :=
  xw_iincG (i := 2) h hv hn (by simp) rfl (fun j u hj hu => xo_1 ho u (by
    have e : j = 1 := by omega
    subst e
    simpa using hu)) k
theorem xw_aload2 {x : Nat} {o0 o1 : Option Value} {t : List (Option Value)} (h : xw_dec M.2.1 pc (.aload_n 2) 1 pc') (k : xw_w κ l M pc' (o0 :: o1 :: some (.ref x) :: t) (.ref x :: S) w E) : xw_w κ l M pc (o0 :: o1 :: some (.ref x) :: t) S w E := by
  obtain ⟨hdg, rfl⟩ := h
  exact xw_s k fun G p e R s m args below meth c H locs cells slots ls Q hS hR hL kw => lv_aload_n hS.1 hS.2.1 hdg rfl (hL.get (i := 2) (v := .ref x) rfl) kw
theorem xw_astore2 {x : Nat} {o0 o1 : Option Value} {d : Option Value} {t : List (Option Value)} (h : xw_dec M.2.1 pc (.astore_n 2) 1 pc') (hn : 2 < M.2.2.1) (ho : xo_b o1 = true) (k : xw_w κ l M pc' (o0 :: o1 :: some (.ref x) :: t) S w E) : xw_w κ l M pc (o0 :: o1 :: d :: t) (.ref x :: S) w E :=
  xw_astoreG (i := 2) h (Or.inl ⟨2, rfl, rfl, rfl⟩) hn (by simp) (fun j u hj hu => xo_1 ho u (by
    have e : j = 1 := by omega
    subst e
    simpa using hu)) k
theorem xw_lload2 {x : Int64} {o0 o1 : Option Value} {t : List (Option Value)} (h : xw_dec M.2.1 pc (.lload_n 2) 1 pc') (k : xw_w κ l M pc' (o0 :: o1 :: some (.long x) :: t) (.long x :: S) w E) : xw_w κ l M pc (o0 :: o1 :: some (.long x) :: t) S w E := by
  obtain ⟨hdg, rfl⟩ := h
  exact xw_s k fun G p e R s m args below meth c H locs cells slots ls Q hS hR hL kw => lv_lload_n hS.1 hS.2.1 hdg rfl (hL.get (i := 2) (v := .long x) rfl) kw
theorem xw_lstore2 {x : Int64} {o0 o1 : Option Value} {d d2 : Option Value} {t : List (Option Value)} (h : xw_dec M.2.1 pc (.lstore_n 2) 1 pc') (hn : 3 < M.2.2.1) (ho : xo_b o1 = true) (k : xw_w κ l M pc' (o0 :: o1 :: some (.long x) :: none :: t) S w E) : xw_w κ l M pc (o0 :: o1 :: d :: d2 :: t) (.long x :: S) w E :=
  xw_lstoreG (i := 2) h rfl hn (by simp) (fun j u hj hu => xo_1 ho u (by
    have e : j = 1 := by omega
    subst e
    simpa using hu)) k
theorem xw_iload3 {x : Int32} {o0 o1 o2 : Option Value} {t : List (Option Value)} (h : xw_dec M.2.1 pc (.iload_n 3) 1 pc') (k : xw_w κ l M pc' (o0 :: o1 :: o2 :: some (.int x) :: t) (.int x :: S) w E) : xw_w κ l M pc (o0 :: o1 :: o2 :: some (.int x) :: t) S w E := by
  obtain ⟨hdg, rfl⟩ := h
  exact xw_s k fun G p e R s m args below meth c H locs cells slots ls Q hS hR hL kw => lv_iload_n hS.1 hS.2.1 hdg rfl (hL.get (i := 3) (v := .int x) rfl) kw
theorem xw_istore3 {x : Int32} {o0 o1 o2 : Option Value} {d : Option Value} {t : List (Option Value)} (h : xw_dec M.2.1 pc (.istore_n 3) 1 pc') (hn : 3 < M.2.2.1) (ho : xo_b o2 = true) (k : xw_w κ l M pc' (o0 :: o1 :: o2 :: some (.int x) :: t) S w E) : xw_w κ l M pc (o0 :: o1 :: o2 :: d :: t) (.int x :: S) w E :=
  xw_istoreG (i := 3) h (Or.inl ⟨3, rfl, rfl, rfl⟩) hn (by simp) (fun j u hj hu => xo_1 ho u (by
    have e : j = 2 := by omega
    subst e
    simpa using hu)) k
theorem xw_iinc3 {n : Int} {x v : Int32} {o0 o1 o2 : Option Value} {t : List (Option Value)} (h : xw_dec M.2.1 pc (.iinc 3 n) 3 pc') (hv : x + Int32.ofInt n = v) (hn : 3 < M.2.2.1) (ho : xo_b o2 = true) (k : xw_w κ l M pc' (o0 :: o1 :: o2 :: some (.int v) :: t) S w E) : xw_w κ l M pc (o0 :: o1 :: o2 :: some (.int x) :: t) S w E :=
  xw_iincG (i := 3) h hv hn (by simp) rfl (fun j u hj hu => xo_1 ho u (by
    have e : j = 2 := by omega
    subst e
    simpa using hu)) k
theorem xw_aload3 {x : Nat} {o0 o1 o2 : Option Value} {t : List (Option Value)} (h : xw_dec M.2.1 pc (.aload_n 3) 1 pc') (k : xw_w κ l M pc' (o0 :: o1 :: o2 :: some (.ref x) :: t) (.ref x :: S) w E) : xw_w κ l M pc (o0 :: o1 :: o2 :: some (.ref x) :: t) S w E := by
  obtain ⟨hdg, rfl⟩ := h
  exact xw_s k fun G p e R s m args below meth c H locs cells slots ls Q hS hR hL kw => lv_aload_n hS.1 hS.2.1 hdg rfl (hL.get (i := 3) (v := .ref x) rfl) kw
theorem xw_astore3 {x : Nat} {o0 o1 o2 : Option Value} {d : Option Value} {t : List (Option Value)} (h : xw_dec M.2.1 pc (.astore_n 3) 1 pc') (hn : 3 < M.2.2.1) (ho : xo_b o2 = true) (k : xw_w κ l M pc' (o0 :: o1 :: o2 :: some (.ref x) :: t) S w E) : xw_w κ l M pc (o0 :: o1 :: o2 :: d :: t) (.ref x :: S) w E :=
  xw_astoreG (i := 3) h (Or.inl ⟨3, rfl, rfl, rfl⟩) hn (by simp) (fun j u hj hu => xo_1 ho u (by
    have e : j = 2 := by omega
    subst e
    simpa using hu)) k
theorem xw_lload3 {x : Int64} {o0 o1 o2 : Option Value} {t : List (Option Value)} (h : xw_dec M.2.1 pc (.lload_n 3) 1 pc') (k : xw_w κ l M pc' (o0 :: o1 :: o2 :: some (.long x) :: t) (.long x :: S) w E) : xw_w κ l M pc (o0 :: o1 :: o2 :: some (.long x) :: t) S w E := by
  obtain ⟨hdg, rfl⟩ := h
  exact xw_s k fun G p e R s m args below meth c H locs cells slots ls Q hS hR hL kw => lv_lload_n hS.1 hS.2.1 hdg rfl (hL.get (i := 3) (v := .long x) rfl) kw
theorem xw_lstore3 {x : Int64} {o0 o1 o2 : Option Value} {d d2 : Option Value} {t : List (Option Value)} (h : xw_dec M.2.1 pc (.lstore_n 3) 1 pc') (hn : 4 < M.2.2.1) (ho : xo_b o2 = true) (k : xw_w κ l M pc' (o0 :: o1 :: o2 :: some (.long x) :: none :: t) S w E) : xw_w κ l M pc (o0 :: o1 :: o2 :: d :: d2 :: t) (.long x :: S) w E :=
  xw_lstoreG (i := 3) h rfl hn (by simp) (fun j u hj hu => xo_1 ho u (by
    have e : j = 2 := by omega
    subst e
    simpa using hu)) k
theorem xw_iload4 {x : Int32} {o0 o1 o2 o3 : Option Value} {t : List (Option Value)} (h : xw_dec M.2.1 pc (.iload 4) 2 pc') (k : xw_w κ l M pc' (o0 :: o1 :: o2 :: o3 :: some (.int x) :: t) (.int x :: S) w E) : xw_w κ l M pc (o0 :: o1 :: o2 :: o3 :: some (.int x) :: t) S w E := by
  obtain ⟨hdg, rfl⟩ := h
  exact xw_s k fun G p e R s m args below meth c H locs cells slots ls Q hS hR hL kw => lv_iload hS.1 hS.2.1 hdg (hL.get (i := 4) (v := .int x) rfl) kw
theorem xw_istore4 {x : Int32} {o0 o1 o2 o3 : Option Value} {d : Option Value} {t : List (Option Value)} (h : xw_dec M.2.1 pc (.istore 4) 2 pc') (hn : 4 < M.2.2.1) (ho : xo_b o3 = true) (k : xw_w κ l M pc' (o0 :: o1 :: o2 :: o3 :: some (.int x) :: t) S w E) : xw_w κ l M pc (o0 :: o1 :: o2 :: o3 :: d :: t) (.int x :: S) w E :=
  xw_istoreG (i := 4) h (Or.inr ⟨rfl, rfl⟩) hn (by simp) (fun j u hj hu => xo_1 ho u (by
    have e : j = 3 := by omega
    subst e
    simpa using hu)) k
theorem xw_iinc4 {n : Int} {x v : Int32} {o0 o1 o2 o3 : Option Value} {t : List (Option Value)} (h : xw_dec M.2.1 pc (.iinc 4 n) 3 pc') (hv : x + Int32.ofInt n = v) (hn : 4 < M.2.2.1) (ho : xo_b o3 = true) (k : xw_w κ l M pc' (o0 :: o1 :: o2 :: o3 :: some (.int v) :: t) S w E) : xw_w κ l M pc (o0 :: o1 :: o2 :: o3 :: some (.int x) :: t) S w E :=
  xw_iincG (i := 4) h hv hn (by simp) rfl (fun j u hj hu => xo_1 ho u (by
    have e : j = 3 := by omega
    subst e
    simpa using hu)) k
theorem xw_aload4 {x : Nat} {o0 o1 o2 o3 : Option Value} {t : List (Option Value)} (h : xw_dec M.2.1 pc (.aload 4) 2 pc') (k : xw_w κ l M pc' (o0 :: o1 :: o2 :: o3 :: some (.ref x) :: t) (.ref x :: S) w E) : xw_w κ l M pc (o0 :: o1 :: o2 :: o3 :: some (.ref x) :: t) S w E := by
  obtain ⟨hdg, rfl⟩ := h
  exact xw_s k fun G p e R s m args below meth c H locs cells slots ls Q hS hR hL kw => lv_aload hS.1 hS.2.1 hdg (hL.get (i := 4) (v := .ref x) rfl) kw
theorem xw_astore4 {x : Nat} {o0 o1 o2 o3 : Option Value} {d : Option Value} {t : List (Option Value)} (h : xw_dec M.2.1 pc (.astore 4) 2 pc') (hn : 4 < M.2.2.1) (ho : xo_b o3 = true) (k : xw_w κ l M pc' (o0 :: o1 :: o2 :: o3 :: some (.ref x) :: t) S w E) : xw_w κ l M pc (o0 :: o1 :: o2 :: o3 :: d :: t) (.ref x :: S) w E :=
  xw_astoreG (i := 4) h (Or.inr ⟨rfl, rfl⟩) hn (by simp) (fun j u hj hu => xo_1 ho u (by
    have e : j = 3 := by omega
    subst e
    simpa using hu)) k
theorem xw_iload5 {x : Int32} {o0 o1 o2 o3 o4 : Option Value} {t : List (Option Value)} (h : xw_dec M.2.1 pc (.iload 5) 2 pc') (k : xw_w κ l M pc' (o0 :: o1 :: o2 :: o3 :: o4 :: some (.int x) :: t) (.int x :: S) w E) : xw_w κ l M pc (o0 :: o1 :: o2 :: o3 :: o4 :: some (.int x) :: t) S w E := by
  obtain ⟨hdg, rfl⟩ := h
  exact xw_s k fun G p e R s m args below meth c H locs cells slots ls Q hS hR hL kw => lv_iload hS.1 hS.2.1 hdg (hL.get (i := 5) (v := .int x) rfl) kw
theorem xw_istore5 {x : Int32} {o0 o1 o2 o3 o4 : Option Value} {d : Option Value} {t : List (Option Value)} (h : xw_dec M.2.1 pc (.istore 5) 2 pc') (hn : 5 < M.2.2.1) (ho : xo_b o4 = true) (k : xw_w κ l M pc' (o0 :: o1 :: o2 :: o3 :: o4 :: some (.int x) :: t) S w E) : xw_w κ l M pc (o0 :: o1 :: o2 :: o3 :: o4 :: d :: t) (.int x :: S) w E :=
  xw_istoreG (i := 5) h (Or.inr ⟨rfl, rfl⟩) hn (by simp) (fun j u hj hu => xo_1 ho u (by
    have e : j = 4 := by omega
    subst e
    simpa using hu)) k
theorem xw_iinc5 {n : Int} {x v : Int32} {o0 o1 o2 o3 o4 : Option Value} {t : List (Option Value)} (h : xw_dec M.2.1 pc (.iinc 5 n) 3 pc') (hv : x + Int32.ofInt n = v) (hn : 5 < M.2.2.1) (ho : xo_b o4 = true) (k : xw_w κ l M pc' (o0 :: o1 :: o2 :: o3 :: o4 :: some (.int v) :: t) S w E) : xw_w κ l M pc (o0 :: o1 :: o2 :: o3 :: o4 :: some (.int x) :: t) S w E :=
  xw_iincG (i := 5) h hv hn (by simp) rfl (fun j u hj hu => xo_1 ho u (by
    have e : j = 4 := by omega
    subst e
    simpa using hu)) k
theorem xw_aload5 {x : Nat} {o0 o1 o2 o3 o4 : Option Value} {t : List (Option Value)} (h : xw_dec M.2.1 pc (.aload 5) 2 pc') (k : xw_w κ l M pc' (o0 :: o1 :: o2 :: o3 :: o4 :: some (.ref x) :: t) (.ref x :: S) w E) : xw_w κ l M pc (o0 :: o1 :: o2 :: o3 :: o4 :: some (.ref x) :: t) S w E := by
  obtain ⟨hdg, rfl⟩ := h
  exact xw_s k fun G p e R s m args below meth c H locs cells slots ls Q hS hR hL kw => lv_aload hS.1 hS.2.1 hdg (hL.get (i := 5) (v := .ref x) rfl) kw
theorem xw_astore5 {x : Nat} {o0 o1 o2 o3 o4 : Option Value} {d : Option Value} {t : List (Option Value)} (h : xw_dec M.2.1 pc (.astore 5) 2 pc') (hn : 5 < M.2.2.1) (ho : xo_b o4 = true) (k : xw_w κ l M pc' (o0 :: o1 :: o2 :: o3 :: o4 :: some (.ref x) :: t) S w E) : xw_w κ l M pc (o0 :: o1 :: o2 :: o3 :: o4 :: d :: t) (.ref x :: S) w E :=
  xw_astoreG (i := 5) h (Or.inr ⟨rfl, rfl⟩) hn (by simp) (fun j u hj hu => xo_1 ho u (by
    have e : j = 4 := by omega
    subst e
    simpa using hu)) k
theorem xw_iload6 {x : Int32} {o0 o1 o2 o3 o4 o5 : Option Value} {t : List (Option Value)} (h : xw_dec M.2.1 pc (.iload 6) 2 pc') (k : xw_w κ l M pc' (o0 :: o1 :: o2 :: o3 :: o4 :: o5 :: some (.int x) :: t) (.int x :: S) w E) : xw_w κ l M pc (o0 :: o1 :: o2 :: o3 :: o4 :: o5 :: some (.int x) :: t) S w E := by
  obtain ⟨hdg, rfl⟩ := h
  exact xw_s k fun G p e R s m args below meth c H locs cells slots ls Q hS hR hL kw => lv_iload hS.1 hS.2.1 hdg (hL.get (i := 6) (v := .int x) rfl) kw
theorem xw_istore6 {x : Int32} {o0 o1 o2 o3 o4 o5 : Option Value} {d : Option Value} {t : List (Option Value)} (h : xw_dec M.2.1 pc (.istore 6) 2 pc') (hn : 6 < M.2.2.1) (ho : xo_b o5 = true) (k : xw_w κ l M pc' (o0 :: o1 :: o2 :: o3 :: o4 :: o5 :: some (.int x) :: t) S w E) : xw_w κ l M pc (o0 :: o1 :: o2 :: o3 :: o4 :: o5 :: d :: t) (.int x :: S) w E :=
  xw_istoreG (i := 6) h (Or.inr ⟨rfl, rfl⟩) hn (by simp) (fun j u hj hu => xo_1 ho u (by
    have e : j = 5 := by omega
    subst e
    simpa using hu)) k
theorem xw_iinc6 {n : Int} {x v : Int32} {o0 o1 o2 o3 o4 o5 : Option Value} {t : List (Option Value)} (h : xw_dec M.2.1 pc (.iinc 6 n) 3 pc') (hv : x + Int32.ofInt n = v) (hn : 6 < M.2.2.1) (ho : xo_b o5 = true) (k : xw_w κ l M pc' (o0 :: o1 :: o2 :: o3 :: o4 :: o5 :: some (.int v) :: t) S w E) : xw_w κ l M pc (o0 :: o1 :: o2 :: o3 :: o4 :: o5 :: some (.int x) :: t) S w E :=
  xw_iincG (i := 6) h hv hn (by simp) rfl (fun j u hj hu => xo_1 ho u (by
    have e : j = 5 := by omega
    subst e
    simpa using hu)) k
theorem xw_iload7 {x : Int32} {o0 o1 o2 o3 o4 o5 o6 : Option Value} {t : List (Option Value)} (h : xw_dec M.2.1 pc (.iload 7) 2 pc') (k : xw_w κ l M pc' (o0 :: o1 :: o2 :: o3 :: o4 :: o5 :: o6 :: some (.int x) :: t) (.int x :: S) w E) : xw_w κ l M pc (o0 :: o1 :: o2 :: o3 :: o4 :: o5 :: o6 :: some (.int x) :: t) S w E := by
  obtain ⟨hdg, rfl⟩ := h
  exact xw_s k fun G p e R s m args below meth c H locs cells slots ls Q hS hR hL kw => lv_iload hS.1 hS.2.1 hdg (hL.get (i := 7) (v := .int x) rfl) kw
theorem xw_istore7 {x : Int32} {o0 o1 o2 o3 o4 o5 o6 : Option Value} {d : Option Value} {t : List (Option Value)} (h : xw_dec M.2.1 pc (.istore 7) 2 pc') (hn : 7 < M.2.2.1) (ho : xo_b o6 = true) (k : xw_w κ l M pc' (o0 :: o1 :: o2 :: o3 :: o4 :: o5 :: o6 :: some (.int x) :: t) S w E) : xw_w κ l M pc (o0 :: o1 :: o2 :: o3 :: o4 :: o5 :: o6 :: d :: t) (.int x :: S) w E :=
  xw_istoreG (i := 7) h (Or.inr ⟨rfl, rfl⟩) hn (by simp) (fun j u hj hu => xo_1 ho u (by
    have e : j = 6 := by omega
    subst e
    simpa using hu)) k
theorem xw_iinc7 {n : Int} {x v : Int32} {o0 o1 o2 o3 o4 o5 o6 : Option Value} {t : List (Option Value)} (h : xw_dec M.2.1 pc (.iinc 7 n) 3 pc') (hv : x + Int32.ofInt n = v) (hn : 7 < M.2.2.1) (ho : xo_b o6 = true) (k : xw_w κ l M pc' (o0 :: o1 :: o2 :: o3 :: o4 :: o5 :: o6 :: some (.int v) :: t) S w E) : xw_w κ l M pc (o0 :: o1 :: o2 :: o3 :: o4 :: o5 :: o6 :: some (.int x) :: t) S w E :=
  xw_iincG (i := 7) h hv hn (by simp) rfl (fun j u hj hu => xo_1 ho u (by
    have e : j = 6 := by omega
    subst e
    simpa using hu)) k
theorem xw_iload8 {x : Int32} {o0 o1 o2 o3 o4 o5 o6 o7 : Option Value} {t : List (Option Value)} (h : xw_dec M.2.1 pc (.iload 8) 2 pc') (k : xw_w κ l M pc' (o0 :: o1 :: o2 :: o3 :: o4 :: o5 :: o6 :: o7 :: some (.int x) :: t) (.int x :: S) w E) : xw_w κ l M pc (o0 :: o1 :: o2 :: o3 :: o4 :: o5 :: o6 :: o7 :: some (.int x) :: t) S w E := by
  obtain ⟨hdg, rfl⟩ := h
  exact xw_s k fun G p e R s m args below meth c H locs cells slots ls Q hS hR hL kw => lv_iload hS.1 hS.2.1 hdg (hL.get (i := 8) (v := .int x) rfl) kw
theorem xw_istore8 {x : Int32} {o0 o1 o2 o3 o4 o5 o6 o7 : Option Value} {d : Option Value} {t : List (Option Value)} (h : xw_dec M.2.1 pc (.istore 8) 2 pc') (hn : 8 < M.2.2.1) (ho : xo_b o7 = true) (k : xw_w κ l M pc' (o0 :: o1 :: o2 :: o3 :: o4 :: o5 :: o6 :: o7 :: some (.int x) :: t) S w E) : xw_w κ l M pc (o0 :: o1 :: o2 :: o3 :: o4 :: o5 :: o6 :: o7 :: d :: t) (.int x :: S) w E :=
  xw_istoreG (i := 8) h (Or.inr ⟨rfl, rfl⟩) hn (by simp) (fun j u hj hu => xo_1 ho u (by
    have e : j = 7 := by omega
    subst e
    simpa using hu)) k
theorem xw_iinc8 {n : Int} {x v : Int32} {o0 o1 o2 o3 o4 o5 o6 o7 : Option Value} {t : List (Option Value)} (h : xw_dec M.2.1 pc (.iinc 8 n) 3 pc') (hv : x + Int32.ofInt n = v) (hn : 8 < M.2.2.1) (ho : xo_b o7 = true) (k : xw_w κ l M pc' (o0 :: o1 :: o2 :: o3 :: o4 :: o5 :: o6 :: o7 :: some (.int v) :: t) S w E) : xw_w κ l M pc (o0 :: o1 :: o2 :: o3 :: o4 :: o5 :: o6 :: o7 :: some (.int x) :: t) S w E :=
  xw_iincG (i := 8) h hv hn (by simp) rfl (fun j u hj hu => xo_1 ho u (by
    have e : j = 7 := by omega
    subst e
    simpa using hu)) k
theorem xw_iload9 {x : Int32} {o0 o1 o2 o3 o4 o5 o6 o7 o8 : Option Value} {t : List (Option Value)} (h : xw_dec M.2.1 pc (.iload 9) 2 pc') (k : xw_w κ l M pc' (o0 :: o1 :: o2 :: o3 :: o4 :: o5 :: o6 :: o7 :: o8 :: some (.int x) :: t) (.int x :: S) w E) : xw_w κ l M pc (o0 :: o1 :: o2 :: o3 :: o4 :: o5 :: o6 :: o7 :: o8 :: some (.int x) :: t) S w E := by
  obtain ⟨hdg, rfl⟩ := h
  exact xw_s k fun G p e R s m args below meth c H locs cells slots ls Q hS hR hL kw => lv_iload hS.1 hS.2.1 hdg (hL.get (i := 9) (v := .int x) rfl) kw
theorem xw_istore9 {x : Int32} {o0 o1 o2 o3 o4 o5 o6 o7 o8 : Option Value} {d : Option Value} {t : List (Option Value)} (h : xw_dec M.2.1 pc (.istore 9) 2 pc') (hn : 9 < M.2.2.1) (ho : xo_b o8 = true) (k : xw_w κ l M pc' (o0 :: o1 :: o2 :: o3 :: o4 :: o5 :: o6 :: o7 :: o8 :: some (.int x) :: t) S w E) : xw_w κ l M pc (o0 :: o1 :: o2 :: o3 :: o4 :: o5 :: o6 :: o7 :: o8 :: d :: t) (.int x :: S) w E :=
  xw_istoreG (i := 9) h (Or.inr ⟨rfl, rfl⟩) hn (by simp) (fun j u hj hu => xo_1 ho u (by
    have e : j = 8 := by omega
    subst e
    simpa using hu)) k
theorem xw_iinc9 {n : Int} {x v : Int32} {o0 o1 o2 o3 o4 o5 o6 o7 o8 : Option Value} {t : List (Option Value)} (h : xw_dec M.2.1 pc (.iinc 9 n) 3 pc') (hv : x + Int32.ofInt n = v) (hn : 9 < M.2.2.1) (ho : xo_b o8 = true) (k : xw_w κ l M pc' (o0 :: o1 :: o2 :: o3 :: o4 :: o5 :: o6 :: o7 :: o8 :: some (.int v) :: t) S w E) : xw_w κ l M pc (o0 :: o1 :: o2 :: o3 :: o4 :: o5 :: o6 :: o7 :: o8 :: some (.int x) :: t) S w E :=
  xw_iincG (i := 9) h hv hn (by simp) rfl (fun j u hj hu => xo_1 ho u (by
    have e : j = 8 := by omega
    subst e
    simpa using hu)) k
theorem xw_iload10 {x : Int32} {o0 o1 o2 o3 o4 o5 o6 o7 o8 o9 : Option Value} {t : List (Option Value)} (h : xw_dec M.2.1 pc (.iload 10) 2 pc') (k : xw_w κ l M pc' (o0 :: o1 :: o2 :: o3 :: o4 :: o5 :: o6 :: o7 :: o8 :: o9 :: some (.int x) :: t) (.int x :: S) w E) : xw_w κ l M pc (o0 :: o1 :: o2 :: o3 :: o4 :: o5 :: o6 :: o7 :: o8 :: o9 :: some (.int x) :: t) S w E := by
  obtain ⟨hdg, rfl⟩ := h
  exact xw_s k fun G p e R s m args below meth c H locs cells slots ls Q hS hR hL kw => lv_iload hS.1 hS.2.1 hdg (hL.get (i := 10) (v := .int x) rfl) kw
theorem xw_istore10 {x : Int32} {o0 o1 o2 o3 o4 o5 o6 o7 o8 o9 : Option Value} {d : Option Value} {t : List (Option Value)} (h : xw_dec M.2.1 pc (.istore 10) 2 pc') (hn : 10 < M.2.2.1) (ho : xo_b o9 = true) (k : xw_w κ l M pc' (o0 :: o1 :: o2 :: o3 :: o4 :: o5 :: o6 :: o7 :: o8 :: o9 :: some (.int x) :: t) S w E) : xw_w κ l M pc (o0 :: o1 :: o2 :: o3 :: o4 :: o5 :: o6 :: o7 :: o8 :: o9 :: d :: t) (.int x :: S) w E :=
  xw_istoreG (i := 10) h (Or.inr ⟨rfl, rfl⟩) hn (by simp) (fun j u hj hu => xo_1 ho u (by
    have e : j = 9 := by omega
    subst e
    simpa using hu)) k
theorem xw_iinc10 {n : Int} {x v : Int32} {o0 o1 o2 o3 o4 o5 o6 o7 o8 o9 : Option Value} {t : List (Option Value)} (h : xw_dec M.2.1 pc (.iinc 10 n) 3 pc') (hv : x + Int32.ofInt n = v) (hn : 10 < M.2.2.1) (ho : xo_b o9 = true) (k : xw_w κ l M pc' (o0 :: o1 :: o2 :: o3 :: o4 :: o5 :: o6 :: o7 :: o8 :: o9 :: some (.int v) :: t) S w E) : xw_w κ l M pc (o0 :: o1 :: o2 :: o3 :: o4 :: o5 :: o6 :: o7 :: o8 :: o9 :: some (.int x) :: t) S w E :=
  xw_iincG (i := 10) h hv hn (by simp) rfl (fun j u hj hu => xo_1 ho u (by
    have e : j = 9 := by omega
    subst e
    simpa using hu)) k
theorem xw_iload11 {x : Int32} {o0 o1 o2 o3 o4 o5 o6 o7 o8 o9 o10 : Option Value} {t : List (Option Value)} (h : xw_dec M.2.1 pc (.iload 11) 2 pc') (k : xw_w κ l M pc' (o0 :: o1 :: o2 :: o3 :: o4 :: o5 :: o6 :: o7 :: o8 :: o9 :: o10 :: some (.int x) :: t) (.int x :: S) w E) : xw_w κ l M pc (o0 :: o1 :: o2 :: o3 :: o4 :: o5 :: o6 :: o7 :: o8 :: o9 :: o10 :: some (.int x) :: t) S w E := by
  obtain ⟨hdg, rfl⟩ := h
  exact xw_s k fun G p e R s m args below meth c H locs cells slots ls Q hS hR hL kw => lv_iload hS.1 hS.2.1 hdg (hL.get (i := 11) (v := .int x) rfl) kw
theorem xw_istore11 {x : Int32} {o0 o1 o2 o3 o4 o5 o6 o7 o8 o9 o10 : Option Value} {d : Option Value} {t : List (Option Value)} (h : xw_dec M.2.1 pc (.istore 11) 2 pc') (hn : 11 < M.2.2.1) (ho : xo_b o10 = true) (k : xw_w κ l M pc' (o0 :: o1 :: o2 :: o3 :: o4 :: o5 :: o6 :: o7 :: o8 :: o9 :: o10 :: some (.int x) :: t) S w E) : xw_w κ l M pc (o0 :: o1 :: o2 :: o3 :: o4 :: o5 :: o6 :: o7 :: o8 :: o9 :: o10 :: d :: t) (.int x :: S) w E :=
  xw_istoreG (i := 11) h (Or.inr ⟨rfl, rfl⟩) hn (by simp) (fun j u hj hu => xo_1 ho u (by
    have e : j = 10 := by omega
    subst e
    simpa using hu)) k
theorem xw_iinc11 {n : Int} {x v : Int32} {o0 o1 o2 o3 o4 o5 o6 o7 o8 o9 o10 : Option Value} {t : List (Option Value)} (h : xw_dec M.2.1 pc (.iinc 11 n) 3 pc') (hv : x + Int32.ofInt n = v) (hn : 11 < M.2.2.1) (ho : xo_b o10 = true) (k : xw_w κ l M pc' (o0 :: o1 :: o2 :: o3 :: o4 :: o5 :: o6 :: o7 :: o8 :: o9 :: o10 :: some (.int v) :: t) S w E) : xw_w κ l M pc (o0 :: o1 :: o2 :: o3 :: o4 :: o5 :: o6 :: o7 :: o8 :: o9 :: o10 :: some (.int x) :: t) S w E :=
  xw_iincG (i := 11) h hv hn (by simp) rfl (fun j u hj hu => xo_1 ho u (by
    have e : j = 10 := by omega
    subst e
    simpa using hu)) k
theorem xw_iload12 {x : Int32} {o0 o1 o2 o3 o4 o5 o6 o7 o8 o9 o10 o11 : Option Value} {t : List (Option Value)} (h : xw_dec M.2.1 pc (.iload 12) 2 pc') (k : xw_w κ l M pc' (o0 :: o1 :: o2 :: o3 :: o4 :: o5 :: o6 :: o7 :: o8 :: o9 :: o10 :: o11 :: some (.int x) :: t) (.int x :: S) w E) : xw_w κ l M pc (o0 :: o1 :: o2 :: o3 :: o4 :: o5 :: o6 :: o7 :: o8 :: o9 :: o10 :: o11 :: some (.int x) :: t) S w E := by
  obtain ⟨hdg, rfl⟩ := h
  exact xw_s k fun G p e R s m args below meth c H locs cells slots ls Q hS hR hL kw => lv_iload hS.1 hS.2.1 hdg (hL.get (i := 12) (v := .int x) rfl) kw
theorem xw_istore12 {x : Int32} {o0 o1 o2 o3 o4 o5 o6 o7 o8 o9 o10 o11 : Option Value} {d : Option Value} {t : List (Option Value)} (h : xw_dec M.2.1 pc (.istore 12) 2 pc') (hn : 12 < M.2.2.1) (ho : xo_b o11 = true) (k : xw_w κ l M pc' (o0 :: o1 :: o2 :: o3 :: o4 :: o5 :: o6 :: o7 :: o8 :: o9 :: o10 :: o11 :: some (.int x) :: t) S w E) : xw_w κ l M pc (o0 :: o1 :: o2 :: o3 :: o4 :: o5 :: o6 :: o7 :: o8 :: o9 :: o10 :: o11 :: d :: t) (.int x :: S) w E :=
  xw_istoreG (i := 12) h (Or.inr ⟨rfl, rfl⟩) hn (by simp) (fun j u hj hu => xo_1 ho u (by
    have e : j = 11 := by omega
    subst e
    simpa using hu)) k
theorem xw_iinc12 {n : Int} {x v : Int32} {o0 o1 o2 o3 o4 o5 o6 o7 o8 o9 o10 o11 : Option Value} {t : List (Option Value)} (h : xw_dec M.2.1 pc (.iinc 12 n) 3 pc') (hv : x + Int32.ofInt n = v) (hn : 12 < M.2.2.1) (ho : xo_b o11 = true) (k : xw_w κ l M pc' (o0 :: o1 :: o2 :: o3 :: o4 :: o5 :: o6 :: o7 :: o8 :: o9 :: o10 :: o11 :: some (.int v) :: t) S w E) : xw_w κ l M pc (o0 :: o1 :: o2 :: o3 :: o4 :: o5 :: o6 :: o7 :: o8 :: o9 :: o10 :: o11 :: some (.int x) :: t) S w E :=
  xw_iincG (i := 12) h hv hn (by simp) rfl (fun j u hj hu => xo_1 ho u (by
    have e : j = 11 := by omega
    subst e
    simpa using hu)) k
theorem xw_iload13 {x : Int32} {o0 o1 o2 o3 o4 o5 o6 o7 o8 o9 o10 o11 o12 : Option Value} {t : List (Option Value)} (h : xw_dec M.2.1 pc (.iload 13) 2 pc') (k : xw_w κ l M pc' (o0 :: o1 :: o2 :: o3 :: o4 :: o5 :: o6 :: o7 :: o8 :: o9 :: o10 :: o11 :: o12 :: some (.int x) :: t) (.int x :: S) w E) : xw_w κ l M pc (o0 :: o1 :: o2 :: o3 :: o4 :: o5 :: o6 :: o7 :: o8 :: o9 :: o10 :: o11 :: o12 :: some (.int x) :: t) S w E := by
  obtain ⟨hdg, rfl⟩ := h
  exact xw_s k fun G p e R s m args below meth c H locs cells slots ls Q hS hR hL kw => lv_iload hS.1 hS.2.1 hdg (hL.get (i := 13) (v := .int x) rfl) kw
theorem xw_istore13 {x : Int32} {o0 o1 o2 o3 o4 o5 o6 o7 o8 o9 o10 o11 o12 : Option Value} {d : Option Value} {t : List (Option Value)} (h : xw_dec M.2.1 pc (.istore 13) 2 pc') (hn : 13 < M.2.2.1) (ho : xo_b o12 = true) (k : xw_w κ l M pc' (o0 :: o1 :: o2 :: o3 :: o4 :: o5 :: o6 :: o7 :: o8 :: o9 :: o10 :: o11 :: o12 :: some (.int x) :: t) S w E) : xw_w κ l M pc (o0 :: o1 :: o2 :: o3 :: o4 :: o5 :: o6 :: o7 :: o8 :: o9 :: o10 :: o11 :: o12 :: d :: t) (.int x :: S) w E :=
  xw_istoreG (i := 13) h (Or.inr ⟨rfl, rfl⟩) hn (by simp) (fun j u hj hu => xo_1 ho u (by
    have e : j = 12 := by omega
    subst e
    simpa using hu)) k
theorem xw_iinc13 {n : Int} {x v : Int32} {o0 o1 o2 o3 o4 o5 o6 o7 o8 o9 o10 o11 o12 : Option Value} {t : List (Option Value)} (h : xw_dec M.2.1 pc (.iinc 13 n) 3 pc') (hv : x + Int32.ofInt n = v) (hn : 13 < M.2.2.1) (ho : xo_b o12 = true) (k : xw_w κ l M pc' (o0 :: o1 :: o2 :: o3 :: o4 :: o5 :: o6 :: o7 :: o8 :: o9 :: o10 :: o11 :: o12 :: some (.int v) :: t) S w E) : xw_w κ l M pc (o0 :: o1 :: o2 :: o3 :: o4 :: o5 :: o6 :: o7 :: o8 :: o9 :: o10 :: o11 :: o12 :: some (.int x) :: t) S w E :=
  xw_iincG (i := 13) h hv hn (by simp) rfl (fun j u hj hu => xo_1 ho u (by
    have e : j = 12 := by omega
    subst e
    simpa using hu)) k
theorem xw_iload14 {x : Int32} {o0 o1 o2 o3 o4 o5 o6 o7 o8 o9 o10 o11 o12 o13 : Option Value} {t : List (Option Value)} (h : xw_dec M.2.1 pc (.iload 14) 2 pc') (k : xw_w κ l M pc' (o0 :: o1 :: o2 :: o3 :: o4 :: o5 :: o6 :: o7 :: o8 :: o9 :: o10 :: o11 :: o12 :: o13 :: some (.int x) :: t) (.int x :: S) w E) : xw_w κ l M pc (o0 :: o1 :: o2 :: o3 :: o4 :: o5 :: o6 :: o7 :: o8 :: o9 :: o10 :: o11 :: o12 :: o13 :: some (.int x) :: t) S w E := by
  obtain ⟨hdg, rfl⟩ := h
  exact xw_s k fun G p e R s m args below meth c H locs cells slots ls Q hS hR hL kw => lv_iload hS.1 hS.2.1 hdg (hL.get (i := 14) (v := .int x) rfl) kw
theorem xw_istore14 {x : Int32} {o0 o1 o2 o3 o4 o5 o6 o7 o8 o9 o10 o11 o12 o13 : Option Value} {d : Option Value} {t : List (Option Value)} (h : xw_dec M.2.1 pc (.istore 14) 2 pc') (hn : 14 < M.2.2.1) (ho : xo_b o13 = true) (k : xw_w κ l M pc' (o0 :: o1 :: o2 :: o3 :: o4 :: o5 :: o6 :: o7 :: o8 :: o9 :: o10 :: o11 :: o12 :: o13 :: some (.int x) :: t) S w E) : xw_w κ l M pc (o0 :: o1 :: o2 :: o3 :: o4 :: o5 :: o6 :: o7 :: o8 :: o9 :: o10 :: o11 :: o12 :: o13 :: d :: t) (.int x :: S) w E :=
  xw_istoreG (i := 14) h (Or.inr ⟨rfl, rfl⟩) hn (by simp) (fun j u hj hu => xo_1 ho u (by
    have e : j = 13 := by omega
    subst e
    simpa using hu)) k
theorem xw_iinc14 {n : Int} {x v : Int32} {o0 o1 o2 o3 o4 o5 o6 o7 o8 o9 o10 o11 o12 o13 : Option Value} {t : List (Option Value)} (h : xw_dec M.2.1 pc (.iinc 14 n) 3 pc') (hv : x + Int32.ofInt n = v) (hn : 14 < M.2.2.1) (ho : xo_b o13 = true) (k : xw_w κ l M pc' (o0 :: o1 :: o2 :: o3 :: o4 :: o5 :: o6 :: o7 :: o8 :: o9 :: o10 :: o11 :: o12 :: o13 :: some (.int v) :: t) S w E) : xw_w κ l M pc (o0 :: o1 :: o2 :: o3 :: o4 :: o5 :: o6 :: o7 :: o8 :: o9 :: o10 :: o11 :: o12 :: o13 :: some (.int x) :: t) S w E :=
  xw_iincG (i := 14) h hv hn (by simp) rfl (fun j u hj hu => xo_1 ho u (by
    have e : j = 13 := by omega
    subst e
    simpa using hu)) k
theorem xw_iadd {x y : Int32} (h : xw_dec M.2.1 pc .iadd 1 pc') (k : xw_w κ l M pc' L (.int (x + y) :: S) w E) : xw_w κ l M pc L (.int y :: .int x :: S) w E := by
  obtain ⟨hdg, rfl⟩ := h
  exact xw_s k fun G p e R s m args below meth c H locs cells slots ls Q hS hR hL kw => lv_iadd hS.1 hS.2.1 hdg  kw
theorem xw_isub {x y : Int32} (h : xw_dec M.2.1 pc .isub 1 pc') (k : xw_w κ l M pc' L (.int (x - y) :: S) w E) : xw_w κ l M pc L (.int y :: .int x :: S) w E := by
  obtain ⟨hdg, rfl⟩ := h
  exact xw_s k fun G p e R s m args below meth c H locs cells slots ls Q hS hR hL kw => lv_isub hS.1 hS.2.1 hdg  kw
theorem xw_imul {x y : Int32} (h : xw_dec M.2.1 pc .imul 1 pc') (k : xw_w κ l M pc' L (.int (x * y) :: S) w E) : xw_w κ l M pc L (.int y :: .int x :: S) w E := by
  obtain ⟨hdg, rfl⟩ := h
  exact xw_s k fun G p e R s m args below meth c H locs cells slots ls Q hS hR hL kw => lv_imul hS.1 hS.2.1 hdg  kw
theorem xw_iand {x y : Int32} (h : xw_dec M.2.1 pc .iand 1 pc') (k : xw_w κ l M pc' L (.int (x &&& y) :: S) w E) : xw_w κ l M pc L (.int y :: .int x :: S) w E := by
  obtain ⟨hdg, rfl⟩ := h
  exact xw_s k fun G p e R s m args below meth c H locs cells slots ls Q hS hR hL kw => lv_iand hS.1 hS.2.1 hdg  kw
theorem xw_ior {x y : Int32} (h : xw_dec M.2.1 pc .ior 1 pc') (k : xw_w κ l M pc' L (.int (x ||| y) :: S) w E) : xw_w κ l M pc L (.int y :: .int x :: S) w E := by
  obtain ⟨hdg, rfl⟩ := h
  exact xw_s k fun G p e R s m args below meth c H locs cells slots ls Q hS hR hL kw => lv_ior hS.1 hS.2.1 hdg  kw
theorem xw_idiv {x y : Int32} (h : xw_dec M.2.1 pc .idiv 1 pc') (hne : ¬ y = 0) (k : xw_w κ l M pc' L (.int (x / y) :: S) w E) : xw_w κ l M pc L (.int y :: .int x :: S) w E := by
  obtain ⟨hdg, rfl⟩ := h
  exact xw_s k fun G p e R s m args below meth c H locs cells slots ls Q hS hR hL kw => lv_idiv hS.1 hS.2.1 hdg hne kw
theorem xw_irem {x y : Int32} (h : xw_dec M.2.1 pc .irem 1 pc') (hne : ¬ y = 0) (k : xw_w κ l M pc' L (.int (x - x / y * y) :: S) w E) : xw_w κ l M pc L (.int y :: .int x :: S) w E := by
  obtain ⟨hdg, rfl⟩ := h
  exact xw_s k fun G p e R s m args below meth c H locs cells slots ls Q hS hR hL kw => lv_irem hS.1 hS.2.1 hdg hne kw
theorem xw_ishr {x y : Int32} (h : xw_dec M.2.1 pc .ishr 1 pc') (k : xw_w κ l M pc' L (.int (x >>> (y &&& 31)) :: S) w E) : xw_w κ l M pc L (.int y :: .int x :: S) w E := by
  obtain ⟨hdg, rfl⟩ := h
  exact xw_s k fun G p e R s m args below meth c H locs cells slots ls Q hS hR hL kw => lv_ishr hS.1 hS.2.1 hdg  kw
theorem xw_lor {x y : Int64} (h : xw_dec M.2.1 pc .lor 1 pc') (k : xw_w κ l M pc' L (.long (x ||| y) :: S) w E) : xw_w κ l M pc L (.long y :: .long x :: S) w E := by
  obtain ⟨hdg, rfl⟩ := h
  exact xw_s k fun G p e R s m args below meth c H locs cells slots ls Q hS hR hL kw => lv_lor hS.1 hS.2.1 hdg  kw
theorem xw_land {x y : Int64} (h : xw_dec M.2.1 pc .land 1 pc') (k : xw_w κ l M pc' L (.long (x &&& y) :: S) w E) : xw_w κ l M pc L (.long y :: .long x :: S) w E := by
  obtain ⟨hdg, rfl⟩ := h
  exact xw_s k fun G p e R s m args below meth c H locs cells slots ls Q hS hR hL kw => lv_land hS.1 hS.2.1 hdg  kw
theorem xw_lshl {x : Int64} {y : Int32} (h : xw_dec M.2.1 pc .lshl 1 pc') (k : xw_w κ l M pc' L (.long (x <<< (y.toInt64 &&& 63)) :: S) w E) : xw_w κ l M pc L (.int y :: .long x :: S) w E := by
  obtain ⟨hdg, rfl⟩ := h
  exact xw_s k fun G p e R s m args below meth c H locs cells slots ls Q hS hR hL kw => lv_lshl hS.1 hS.2.1 hdg rfl kw
theorem xw_lshr {x : Int64} {y : Int32} (h : xw_dec M.2.1 pc .lshr 1 pc') (k : xw_w κ l M pc' L (.long (x >>> (y.toInt64 &&& 63)) :: S) w E) : xw_w κ l M pc L (.int y :: .long x :: S) w E := by
  obtain ⟨hdg, rfl⟩ := h
  exact xw_s k fun G p e R s m args below meth c H locs cells slots ls Q hS hR hL kw => lv_lshr hS.1 hS.2.1 hdg rfl kw
theorem xw_lushr {x : Int64} {y : Int32} (h : xw_dec M.2.1 pc .lushr 1 pc') (k : xw_w κ l M pc' L (.long ((x.toUInt64 >>> (y.toInt64.toUInt64 &&& Int64.toUInt64 63)).toInt64) :: S) w E) : xw_w κ l M pc L (.int y :: .long x :: S) w E := by
  obtain ⟨hdg, rfl⟩ := h
  exact xw_s k fun G p e R s m args below meth c H locs cells slots ls Q hS hR hL kw => lv_lushr hS.1 hS.2.1 hdg rfl kw
theorem xw_lcmp {x y : Int64} (h : xw_dec M.2.1 pc .lcmp 1 pc') (k : xw_w κ l M pc' L (.int (lg_cmp x y) :: S) w E) : xw_w κ l M pc L (.long y :: .long x :: S) w E := by
  obtain ⟨hdg, rfl⟩ := h
  exact xw_s k fun G p e R s m args below meth c H locs cells slots ls Q hS hR hL kw => W.lcmp hS.1 hS.2.1 hdg kw
theorem xw_i2l {x : Int32} (h : xw_dec M.2.1 pc .i2l 1 pc') (k : xw_w κ l M pc' L (.long x.toInt64 :: S) w E) : xw_w κ l M pc L (.int x :: S) w E := by
  obtain ⟨hdg, rfl⟩ := h
  exact xw_s k fun G p e R s m args below meth c H locs cells slots ls Q hS hR hL kw => lv_i2l hS.1 hS.2.1 hdg rfl kw
theorem xw_l2i {x : Int64} (h : xw_dec M.2.1 pc .l2i 1 pc') (k : xw_w κ l M pc' L (.int x.toInt32 :: S) w E) : xw_w κ l M pc L (.long x :: S) w E := by
  obtain ⟨hdg, rfl⟩ := h
  exact xw_s k fun G p e R s m args below meth c H locs cells slots ls Q hS hR hL kw => lv_l2i hS.1 hS.2.1 hdg rfl kw
theorem xw_dup {v : Value} (h : xw_dec M.2.1 pc .dup 1 pc') (hv : v.category = 1) (k : xw_w κ l M pc' L (v :: v :: S) w E) : xw_w κ l M pc L (v :: S) w E := by
  obtain ⟨hdg, rfl⟩ := h
  exact xw_s k fun G p e R s m args below meth c H locs cells slots ls Q hS hR hL kw => lv_dup hS.1 hS.2.1 hdg (by rw [xw_tv_cat]; exact hv) kw
theorem xw_pop {v : Value} (h : xw_dec M.2.1 pc .pop 1 pc') (hv : v.category = 1) (k : xw_w κ l M pc' L S w E) : xw_w κ l M pc L (v :: S) w E := by
  obtain ⟨hdg, rfl⟩ := h
  exact xw_s k fun G p e R s m args below meth c H locs cells slots ls Q hS hR hL kw => lv_pop hS.1 hS.2.1 hdg (by rw [xw_tv_cat]; exact hv) kw
theorem xw_dup2 {v v2 : Value} (h : xw_dec M.2.1 pc .dup2 1 pc') (hv : v.category = 1) (hv2 : v2.category = 1) (k : xw_w κ l M pc' L (v :: v2 :: v :: v2 :: S) w E) : xw_w κ l M pc L (v :: v2 :: S) w E := by
  obtain ⟨hdg, rfl⟩ := h
  exact xw_s k fun G p e R s m args below meth c H locs cells slots ls Q hS hR hL kw => lv_dup2_11 hS.1 hS.2.1 hdg (by rw [xw_tv_cat]; exact hv) (by rw [xw_tv_cat]; exact hv2) kw
theorem xw_iconst {n : Int} {v : Int32} (h : xw_dec M.2.1 pc (.iconst n) 1 pc') (hv : Int32.ofInt n = v) (k : xw_w κ l M pc' L (.int v :: S) w E) : xw_w κ l M pc L S w E := by
  obtain ⟨hdg, rfl⟩ := h
  exact xw_s k fun G p e R s m args below meth c H locs cells slots ls Q hS hR hL kw => lv_iconst hS.1 hS.2.1 hdg hv kw
theorem xw_bipush {n : Int} {v : Int32} (h : xw_dec M.2.1 pc (.bipush n) 2 pc') (hv : (Int8.ofInt n).toInt32 = v) (k : xw_w κ l M pc' L (.int v :: S) w E) : xw_w κ l M pc L S w E := by
  obtain ⟨hdg, rfl⟩ := h
  exact xw_s k fun G p e R s m args below meth c H locs cells slots ls Q hS hR hL kw => lv_bipush hS.1 hS.2.1 hdg hv kw
theorem xw_sipush {n : Int} {v : Int32} (h : xw_dec M.2.1 pc (.sipush n) 3 pc') (hv : (Int16.ofInt n).toInt32 = v) (k : xw_w κ l M pc' L (.int v :: S) w E) : xw_w κ l M pc L S w E := by
  obtain ⟨hdg, rfl⟩ := h
  exact xw_s k fun G p e R s m args below meth c H locs cells slots ls Q hS hR hL kw => lv_sipush hS.1 hS.2.1 hdg hv kw
theorem xw_lconst {n : Fin 2} {v : Int64} (h : xw_dec M.2.1 pc (.lconst n) 1 pc') (hv : Int64.ofNat (n : Nat) = v) (k : xw_w κ l M pc' L (.long v :: S) w E) : xw_w κ l M pc L S w E := by
  obtain ⟨hdg, rfl⟩ := h
  exact xw_s k fun G p e R s m args below meth c H locs cells slots ls Q hS hR hL kw => lv_lconst hS.1 hS.2.1 hdg hv kw
theorem xw_ldc {idx : Nat} {v : Int32} (h : xw_dec M.2.1 pc (.ldc idx) 2 pc') (hc : Cond.constant M.1.cls idx v ∈ xw_T) (k : xw_w κ l M pc' L (.int v :: S) w E) : xw_w κ l M pc L S w E := by
  obtain ⟨hdg, rfl⟩ := h
  exact xw_s k fun G p e R s m args below meth c H locs cells slots ls Q hS hR hL kw => lv_ldc hS.1 hS.2.1 hS.2.2.2.2.2.1 (hS.2.2.2.2.2.2.2.1 _ hc) hdg kw
theorem xw_ldc2 {idx : Nat} {v : Int64} (h : xw_dec M.2.1 pc (.ldc2_w idx) 3 pc') (hc : Cond.constantLong M.1.cls idx v ∈ xw_T) (k : xw_w κ l M pc' L (.long v :: S) w E) : xw_w κ l M pc L S w E := by
  obtain ⟨hdg, rfl⟩ := h
  exact xw_s k fun G p e R s m args below meth c H locs cells slots ls Q hS hR hL kw => lv_ldc2 hS.1 hS.2.1 hS.2.2.2.2.2.1 (hS.2.2.2.2.2.2.2.1 _ hc) hdg kw
theorem xw_goto {off : Int} {tgt : Nat} (h : xw_dec M.2.1 pc (.goto off) 3 pc') (ht : (pc : Int) + off = (tgt : Int)) (k : xw_w κ l M tgt L S w E) : xw_w κ l M pc L S w E := by
  obtain ⟨hdg, rfl⟩ := h
  exact xw_s k fun G p e R s m args below meth c H locs cells slots ls Q hS hR hL kw => lv_goto hS.1 hS.2.1 hdg ht kw
theorem xw_if_eq {x : Int32} {off : Int} {tgt : Nat} (h : xw_dec M.2.1 pc (.ifCond .eq off) 3 pc') (ht : (pc : Int) + off = (tgt : Int)) (kt : x = 0 → xw_w κ l M tgt L S w E) (kf : ¬ x = 0 → xw_w κ l M pc' L S w E) : xw_w κ l M pc L (.int x :: S) w E := by
  obtain ⟨hdg, rfl⟩ := h
  have hm : w.1 ≤ E.2.1 ∧ w.2.1 ≤ E.2.2.1 := by
    by_cases hx : x = 0
    · exact (kt hx).1
    · exact (kf hx).1
  exact ⟨hm, fun G p e R s m args below meth c H locs cells slots ls hS hR hL hlo hc hs => lv_if_eq hS.1 hS.2.1 hdg ht (fun hx => (kt hx).2 G p e R s m args below meth c H locs cells slots ls hS hR hL hlo hc hs) (fun hx => (kf hx).2 G p e R s m args below meth c H locs cells slots ls hS hR hL hlo hc hs)⟩
theorem xw_if_eq' {x : Int32} {off : Int} {tgt : Nat} {β : Type} {φ : β → xw_O × xw_W} {A B : β} (h : xw_dec M.2.1 pc (.ifCond .eq off) 3 pc') (ht : (pc : Int) + off = (tgt : Int)) (kt : x = 0 → xw_w κ l M tgt L S w (φ A)) (kf : ¬ x = 0 → xw_w κ l M pc' L S w (φ B)) : xw_w κ l M pc L (.int x :: S) w (φ (if x = 0 then A else B)) :=
  xw_if_eq h ht (fun hx => by rw [if_pos hx]; exact kt hx) (fun hx => by rw [if_neg hx]; exact kf hx)
theorem xw_if_ne {x : Int32} {off : Int} {tgt : Nat} (h : xw_dec M.2.1 pc (.ifCond .ne off) 3 pc') (ht : (pc : Int) + off = (tgt : Int)) (kt : ¬ x = 0 → xw_w κ l M tgt L S w E) (kf : x = 0 → xw_w κ l M pc' L S w E) : xw_w κ l M pc L (.int x :: S) w E := by
  obtain ⟨hdg, rfl⟩ := h
  have hm : w.1 ≤ E.2.1 ∧ w.2.1 ≤ E.2.2.1 := by
    by_cases hx : x = 0
    · exact (kf hx).1
    · exact (kt hx).1
  exact ⟨hm, fun G p e R s m args below meth c H locs cells slots ls hS hR hL hlo hc hs => lv_if_ne hS.1 hS.2.1 hdg ht (fun hx => (kt hx).2 G p e R s m args below meth c H locs cells slots ls hS hR hL hlo hc hs) (fun hx => (kf hx).2 G p e R s m args below meth c H locs cells slots ls hS hR hL hlo hc hs)⟩
theorem xw_if_ne' {x : Int32} {off : Int} {tgt : Nat} {β : Type} {φ : β → xw_O × xw_W} {A B : β} (h : xw_dec M.2.1 pc (.ifCond .ne off) 3 pc') (ht : (pc : Int) + off = (tgt : Int)) (kt : ¬ x = 0 → xw_w κ l M tgt L S w (φ B)) (kf : x = 0 → xw_w κ l M pc' L S w (φ A)) : xw_w κ l M pc L (.int x :: S) w (φ (if x = 0 then A else B)) :=
  xw_if_ne h ht (fun hx => by rw [if_neg hx]; exact kt hx) (fun hx => by rw [if_pos hx]; exact kf hx)
theorem xw_if_lt {x : Int32} {off : Int} {tgt : Nat} (h : xw_dec M.2.1 pc (.ifCond .lt off) 3 pc') (ht : (pc : Int) + off = (tgt : Int)) (kt : x < 0 → xw_w κ l M tgt L S w E) (kf : ¬ x < 0 → xw_w κ l M pc' L S w E) : xw_w κ l M pc L (.int x :: S) w E := by
  obtain ⟨hdg, rfl⟩ := h
  have hm : w.1 ≤ E.2.1 ∧ w.2.1 ≤ E.2.2.1 := by
    by_cases hx : x < 0
    · exact (kt hx).1
    · exact (kf hx).1
  exact ⟨hm, fun G p e R s m args below meth c H locs cells slots ls hS hR hL hlo hc hs => lv_if_lt hS.1 hS.2.1 hdg ht (fun hx => (kt hx).2 G p e R s m args below meth c H locs cells slots ls hS hR hL hlo hc hs) (fun hx => (kf hx).2 G p e R s m args below meth c H locs cells slots ls hS hR hL hlo hc hs)⟩
theorem xw_if_lt' {x : Int32} {off : Int} {tgt : Nat} {β : Type} {φ : β → xw_O × xw_W} {A B : β} (h : xw_dec M.2.1 pc (.ifCond .lt off) 3 pc') (ht : (pc : Int) + off = (tgt : Int)) (kt : x < 0 → xw_w κ l M tgt L S w (φ A)) (kf : ¬ x < 0 → xw_w κ l M pc' L S w (φ B)) : xw_w κ l M pc L (.int x :: S) w (φ (if x < 0 then A else B)) :=
  xw_if_lt h ht (fun hx => by rw [if_pos hx]; exact kt hx) (fun hx => by rw [if_neg hx]; exact kf hx)
theorem xw_if_ge {x : Int32} {off : Int} {tgt : Nat} (h : xw_dec M.2.1 pc (.ifCond .ge off) 3 pc') (ht : (pc : Int) + off = (tgt : Int)) (kt : 0 ≤ x → xw_w κ l M tgt L S w E) (kf : ¬ 0 ≤ x → xw_w κ l M pc' L S w E) : xw_w κ l M pc L (.int x :: S) w E := by
  obtain ⟨hdg, rfl⟩ := h
  have hm : w.1 ≤ E.2.1 ∧ w.2.1 ≤ E.2.2.1 := by
    by_cases hx : 0 ≤ x
    · exact (kt hx).1
    · exact (kf hx).1
  exact ⟨hm, fun G p e R s m args below meth c H locs cells slots ls hS hR hL hlo hc hs => lv_if_ge hS.1 hS.2.1 hdg ht (fun hx => (kt hx).2 G p e R s m args below meth c H locs cells slots ls hS hR hL hlo hc hs) (fun hx => (kf hx).2 G p e R s m args below meth c H locs cells slots ls hS hR hL hlo hc hs)⟩
theorem xw_if_ge' {x : Int32} {off : Int} {tgt : Nat} {β : Type} {φ : β → xw_O × xw_W} {A B : β} (h : xw_dec M.2.1 pc (.ifCond .ge off) 3 pc') (ht : (pc : Int) + off = (tgt : Int)) (kt : 0 ≤ x → xw_w κ l M tgt L S w (φ A)) (kf : ¬ 0 ≤ x → xw_w κ l M pc' L S w (φ B)) : xw_w κ l M pc L (.int x :: S) w (φ (if 0 ≤ x then A else B)) :=
  xw_if_ge h ht (fun hx => by rw [if_pos hx]; exact kt hx) (fun hx => by rw [if_neg hx]; exact kf hx)
theorem xw_if_gt {x : Int32} {off : Int} {tgt : Nat} (h : xw_dec M.2.1 pc (.ifCond .gt off) 3 pc') (ht : (pc : Int) + off = (tgt : Int)) (kt : 0 < x → xw_w κ l M tgt L S w E) (kf : ¬ 0 < x → xw_w κ l M pc' L S w E) : xw_w κ l M pc L (.int x :: S) w E := by
  obtain ⟨hdg, rfl⟩ := h
  have hm : w.1 ≤ E.2.1 ∧ w.2.1 ≤ E.2.2.1 := by
    by_cases hx : 0 < x
    · exact (kt hx).1
    · exact (kf hx).1
  exact ⟨hm, fun G p e R s m args below meth c H locs cells slots ls hS hR hL hlo hc hs => lv_if_gt hS.1 hS.2.1 hdg ht (fun hx => (kt hx).2 G p e R s m args below meth c H locs cells slots ls hS hR hL hlo hc hs) (fun hx => (kf hx).2 G p e R s m args below meth c H locs cells slots ls hS hR hL hlo hc hs)⟩
theorem xw_if_gt' {x : Int32} {off : Int} {tgt : Nat} {β : Type} {φ : β → xw_O × xw_W} {A B : β} (h : xw_dec M.2.1 pc (.ifCond .gt off) 3 pc') (ht : (pc : Int) + off = (tgt : Int)) (kt : 0 < x → xw_w κ l M tgt L S w (φ A)) (kf : ¬ 0 < x → xw_w κ l M pc' L S w (φ B)) : xw_w κ l M pc L (.int x :: S) w (φ (if 0 < x then A else B)) :=
  xw_if_gt h ht (fun hx => by rw [if_pos hx]; exact kt hx) (fun hx => by rw [if_neg hx]; exact kf hx)
theorem xw_if_le {x : Int32} {off : Int} {tgt : Nat} (h : xw_dec M.2.1 pc (.ifCond .le off) 3 pc') (ht : (pc : Int) + off = (tgt : Int)) (kt : x ≤ 0 → xw_w κ l M tgt L S w E) (kf : ¬ x ≤ 0 → xw_w κ l M pc' L S w E) : xw_w κ l M pc L (.int x :: S) w E := by
  obtain ⟨hdg, rfl⟩ := h
  have hm : w.1 ≤ E.2.1 ∧ w.2.1 ≤ E.2.2.1 := by
    by_cases hx : x ≤ 0
    · exact (kt hx).1
    · exact (kf hx).1
  exact ⟨hm, fun G p e R s m args below meth c H locs cells slots ls hS hR hL hlo hc hs => lv_if_le hS.1 hS.2.1 hdg ht (fun hx => (kt hx).2 G p e R s m args below meth c H locs cells slots ls hS hR hL hlo hc hs) (fun hx => (kf hx).2 G p e R s m args below meth c H locs cells slots ls hS hR hL hlo hc hs)⟩
theorem xw_if_le' {x : Int32} {off : Int} {tgt : Nat} {β : Type} {φ : β → xw_O × xw_W} {A B : β} (h : xw_dec M.2.1 pc (.ifCond .le off) 3 pc') (ht : (pc : Int) + off = (tgt : Int)) (kt : x ≤ 0 → xw_w κ l M tgt L S w (φ A)) (kf : ¬ x ≤ 0 → xw_w κ l M pc' L S w (φ B)) : xw_w κ l M pc L (.int x :: S) w (φ (if x ≤ 0 then A else B)) :=
  xw_if_le h ht (fun hx => by rw [if_pos hx]; exact kt hx) (fun hx => by rw [if_neg hx]; exact kf hx)
theorem xw_icmp_eq {x y : Int32} {off : Int} {tgt : Nat} (h : xw_dec M.2.1 pc (.if_icmp .eq off) 3 pc') (ht : (pc : Int) + off = (tgt : Int)) (kt : x = y → xw_w κ l M tgt L S w E) (kf : ¬ x = y → xw_w κ l M pc' L S w E) : xw_w κ l M pc L (.int y :: .int x :: S) w E := by
  obtain ⟨hdg, rfl⟩ := h
  have hm : w.1 ≤ E.2.1 ∧ w.2.1 ≤ E.2.2.1 := by
    by_cases hx : x = y
    · exact (kt hx).1
    · exact (kf hx).1
  exact ⟨hm, fun G p e R s m args below meth c H locs cells slots ls hS hR hL hlo hc hs => lv_icmp_eq hS.1 hS.2.1 hdg ht (fun hx => (kt hx).2 G p e R s m args below meth c H locs cells slots ls hS hR hL hlo hc hs) (fun hx => (kf hx).2 G p e R s m args below meth c H locs cells slots ls hS hR hL hlo hc hs)⟩
theorem xw_icmp_eq' {x y : Int32} {off : Int} {tgt : Nat} {β : Type} {φ : β → xw_O × xw_W} {A B : β} (h : xw_dec M.2.1 pc (.if_icmp .eq off) 3 pc') (ht : (pc : Int) + off = (tgt : Int)) (kt : x = y → xw_w κ l M tgt L S w (φ A)) (kf : ¬ x = y → xw_w κ l M pc' L S w (φ B)) : xw_w κ l M pc L (.int y :: .int x :: S) w (φ (if x = y then A else B)) :=
  xw_icmp_eq h ht (fun hx => by rw [if_pos hx]; exact kt hx) (fun hx => by rw [if_neg hx]; exact kf hx)
theorem xw_icmp_ne {x y : Int32} {off : Int} {tgt : Nat} (h : xw_dec M.2.1 pc (.if_icmp .ne off) 3 pc') (ht : (pc : Int) + off = (tgt : Int)) (kt : ¬ x = y → xw_w κ l M tgt L S w E) (kf : x = y → xw_w κ l M pc' L S w E) : xw_w κ l M pc L (.int y :: .int x :: S) w E := by
  obtain ⟨hdg, rfl⟩ := h
  have hm : w.1 ≤ E.2.1 ∧ w.2.1 ≤ E.2.2.1 := by
    by_cases hx : x = y
    · exact (kf hx).1
    · exact (kt hx).1
  exact ⟨hm, fun G p e R s m args below meth c H locs cells slots ls hS hR hL hlo hc hs => lv_icmp_ne hS.1 hS.2.1 hdg ht (fun hx => (kt hx).2 G p e R s m args below meth c H locs cells slots ls hS hR hL hlo hc hs) (fun hx => (kf hx).2 G p e R s m args below meth c H locs cells slots ls hS hR hL hlo hc hs)⟩
theorem xw_icmp_ne' {x y : Int32} {off : Int} {tgt : Nat} {β : Type} {φ : β → xw_O × xw_W} {A B : β} (h : xw_dec M.2.1 pc (.if_icmp .ne off) 3 pc') (ht : (pc : Int) + off = (tgt : Int)) (kt : ¬ x = y → xw_w κ l M tgt L S w (φ B)) (kf : x = y → xw_w κ l M pc' L S w (φ A)) : xw_w κ l M pc L (.int y :: .int x :: S) w (φ (if x = y then A else B)) :=
  xw_icmp_ne h ht (fun hx => by rw [if_neg hx]; exact kt hx) (fun hx => by rw [if_pos hx]; exact kf hx)
theorem xw_icmp_lt {x y : Int32} {off : Int} {tgt : Nat} (h : xw_dec M.2.1 pc (.if_icmp .lt off) 3 pc') (ht : (pc : Int) + off = (tgt : Int)) (kt : x < y → xw_w κ l M tgt L S w E) (kf : ¬ x < y → xw_w κ l M pc' L S w E) : xw_w κ l M pc L (.int y :: .int x :: S) w E := by
  obtain ⟨hdg, rfl⟩ := h
  have hm : w.1 ≤ E.2.1 ∧ w.2.1 ≤ E.2.2.1 := by
    by_cases hx : x < y
    · exact (kt hx).1
    · exact (kf hx).1
  exact ⟨hm, fun G p e R s m args below meth c H locs cells slots ls hS hR hL hlo hc hs => lv_icmp_lt hS.1 hS.2.1 hdg ht (fun hx => (kt hx).2 G p e R s m args below meth c H locs cells slots ls hS hR hL hlo hc hs) (fun hx => (kf hx).2 G p e R s m args below meth c H locs cells slots ls hS hR hL hlo hc hs)⟩
theorem xw_icmp_lt' {x y : Int32} {off : Int} {tgt : Nat} {β : Type} {φ : β → xw_O × xw_W} {A B : β} (h : xw_dec M.2.1 pc (.if_icmp .lt off) 3 pc') (ht : (pc : Int) + off = (tgt : Int)) (kt : x < y → xw_w κ l M tgt L S w (φ A)) (kf : ¬ x < y → xw_w κ l M pc' L S w (φ B)) : xw_w κ l M pc L (.int y :: .int x :: S) w (φ (if x < y then A else B)) :=
  xw_icmp_lt h ht (fun hx => by rw [if_pos hx]; exact kt hx) (fun hx => by rw [if_neg hx]; exact kf hx)
theorem xw_icmp_ge {x y : Int32} {off : Int} {tgt : Nat} (h : xw_dec M.2.1 pc (.if_icmp .ge off) 3 pc') (ht : (pc : Int) + off = (tgt : Int)) (kt : y ≤ x → xw_w κ l M tgt L S w E) (kf : ¬ y ≤ x → xw_w κ l M pc' L S w E) : xw_w κ l M pc L (.int y :: .int x :: S) w E := by
  obtain ⟨hdg, rfl⟩ := h
  have hm : w.1 ≤ E.2.1 ∧ w.2.1 ≤ E.2.2.1 := by
    by_cases hx : y ≤ x
    · exact (kt hx).1
    · exact (kf hx).1
  exact ⟨hm, fun G p e R s m args below meth c H locs cells slots ls hS hR hL hlo hc hs => lv_icmp_ge hS.1 hS.2.1 hdg ht (fun hx => (kt hx).2 G p e R s m args below meth c H locs cells slots ls hS hR hL hlo hc hs) (fun hx => (kf hx).2 G p e R s m args below meth c H locs cells slots ls hS hR hL hlo hc hs)⟩
theorem xw_icmp_ge' {x y : Int32} {off : Int} {tgt : Nat} {β : Type} {φ : β → xw_O × xw_W} {A B : β} (h : xw_dec M.2.1 pc (.if_icmp .ge off) 3 pc') (ht : (pc : Int) + off = (tgt : Int)) (kt : y ≤ x → xw_w κ l M tgt L S w (φ A)) (kf : ¬ y ≤ x → xw_w κ l M pc' L S w (φ B)) : xw_w κ l M pc L (.int y :: .int x :: S) w (φ (if y ≤ x then A else B)) :=
  xw_icmp_ge h ht (fun hx => by rw [if_pos hx]; exact kt hx) (fun hx => by rw [if_neg hx]; exact kf hx)
theorem xw_icmp_gt {x y : Int32} {off : Int} {tgt : Nat} (h : xw_dec M.2.1 pc (.if_icmp .gt off) 3 pc') (ht : (pc : Int) + off = (tgt : Int)) (kt : y < x → xw_w κ l M tgt L S w E) (kf : ¬ y < x → xw_w κ l M pc' L S w E) : xw_w κ l M pc L (.int y :: .int x :: S) w E := by
  obtain ⟨hdg, rfl⟩ := h
  have hm : w.1 ≤ E.2.1 ∧ w.2.1 ≤ E.2.2.1 := by
    by_cases hx : y < x
    · exact (kt hx).1
    · exact (kf hx).1
  exact ⟨hm, fun G p e R s m args below meth c H locs cells slots ls hS hR hL hlo hc hs => lv_icmp_gt hS.1 hS.2.1 hdg ht (fun hx => (kt hx).2 G p e R s m args below meth c H locs cells slots ls hS hR hL hlo hc hs) (fun hx => (kf hx).2 G p e R s m args below meth c H locs cells slots ls hS hR hL hlo hc hs)⟩
theorem xw_icmp_gt' {x y : Int32} {off : Int} {tgt : Nat} {β : Type} {φ : β → xw_O × xw_W} {A B : β} (h : xw_dec M.2.1 pc (.if_icmp .gt off) 3 pc') (ht : (pc : Int) + off = (tgt : Int)) (kt : y < x → xw_w κ l M tgt L S w (φ A)) (kf : ¬ y < x → xw_w κ l M pc' L S w (φ B)) : xw_w κ l M pc L (.int y :: .int x :: S) w (φ (if y < x then A else B)) :=
  xw_icmp_gt h ht (fun hx => by rw [if_pos hx]; exact kt hx) (fun hx => by rw [if_neg hx]; exact kf hx)
theorem xw_icmp_le {x y : Int32} {off : Int} {tgt : Nat} (h : xw_dec M.2.1 pc (.if_icmp .le off) 3 pc') (ht : (pc : Int) + off = (tgt : Int)) (kt : x ≤ y → xw_w κ l M tgt L S w E) (kf : ¬ x ≤ y → xw_w κ l M pc' L S w E) : xw_w κ l M pc L (.int y :: .int x :: S) w E := by
  obtain ⟨hdg, rfl⟩ := h
  have hm : w.1 ≤ E.2.1 ∧ w.2.1 ≤ E.2.2.1 := by
    by_cases hx : x ≤ y
    · exact (kt hx).1
    · exact (kf hx).1
  exact ⟨hm, fun G p e R s m args below meth c H locs cells slots ls hS hR hL hlo hc hs => lv_icmp_le hS.1 hS.2.1 hdg ht (fun hx => (kt hx).2 G p e R s m args below meth c H locs cells slots ls hS hR hL hlo hc hs) (fun hx => (kf hx).2 G p e R s m args below meth c H locs cells slots ls hS hR hL hlo hc hs)⟩
theorem xw_icmp_le' {x y : Int32} {off : Int} {tgt : Nat} {β : Type} {φ : β → xw_O × xw_W} {A B : β} (h : xw_dec M.2.1 pc (.if_icmp .le off) 3 pc') (ht : (pc : Int) + off = (tgt : Int)) (kt : x ≤ y → xw_w κ l M tgt L S w (φ A)) (kf : ¬ x ≤ y → xw_w κ l M pc' L S w (φ B)) : xw_w κ l M pc L (.int y :: .int x :: S) w (φ (if x ≤ y then A else B)) :=
  xw_icmp_le h ht (fun hx => by rw [if_pos hx]; exact kt hx) (fun hx => by rw [if_neg hx]; exact kf hx)
theorem xw_if_eq_t {x : Int32} {off : Int} {tgt : Nat} (h : xw_dec M.2.1 pc (.ifCond .eq off) 3 pc') (ht : (pc : Int) + off = (tgt : Int)) (hx : x = 0) (k : xw_w κ l M tgt L S w E) : xw_w κ l M pc L (.int x :: S) w E := xw_if_eq h ht (fun _ => k) (fun hy => absurd hx hy)
theorem xw_if_eq_f {x : Int32} {off : Int} {tgt : Nat} (h : xw_dec M.2.1 pc (.ifCond .eq off) 3 pc') (ht : (pc : Int) + off = (tgt : Int)) (hx : ¬ x = 0) (k : xw_w κ l M pc' L S w E) : xw_w κ l M pc L (.int x :: S) w E := xw_if_eq h ht (fun hy => absurd hy hx) (fun _ => k)
theorem xw_if_eq_mi {x : Int32} {off : Int} {tgt J : Nat} {a b : Int32} (h : xw_dec M.2.1 pc (.ifCond .eq off) 3 pc') (ht : (pc : Int) + off = (tgt : Int)) (kt : x = 0 → ∀ E', xw_w κ l M J L (.int a :: S) w E' → xw_w κ l M tgt L S w E') (kf : ¬ x = 0 → ∀ E', xw_w κ l M J L (.int b :: S) w E' → xw_w κ l M pc' L S w E') (k : xw_w κ l M J L (.int (if x = 0 then a else b) :: S) w E) : xw_w κ l M pc L (.int x :: S) w E :=
  xw_if_eq h ht (fun hx => kt hx _ (by rw [if_pos hx] at k; exact k)) (fun hx => kf hx _ (by rw [if_neg hx] at k; exact k))
theorem xw_if_eq_mw {x : Int32} {off : Int} {tgt J n u : Nat} {σ a b : xs_S} {ρ : xs_R} (h : xw_dec M.2.1 pc (.ifCond .eq off) 3 pc') (ht : (pc : Int) + off = (tgt : Int)) (kt : x = 0 → ∀ E', xw_w κ l M J L S (n, u, a, ρ) E' → xw_w κ l M tgt L S (n, u, σ, ρ) E') (kf : ¬ x = 0 → ∀ E', xw_w κ l M J L S (n, u, b, ρ) E' → xw_w κ l M pc' L S (n, u, σ, ρ) E') (k : xw_w κ l M J L S (n, u, (if x = 0 then a else b), ρ) E) : xw_w κ l M pc L (.int x :: S) (n, u, σ, ρ) E :=
  xw_if_eq h ht (fun hx => kt hx _ (by rw [if_pos hx] at k; exact k)) (fun hx => kf hx _ (by rw [if_neg hx] at k; exact k))
theorem xw_if_ne_t {x : Int32} {off : Int} {tgt : Nat} (h : xw_dec M.2.1 pc (.ifCond .ne off) 3 pc') (ht : (pc : Int) + off = (tgt : Int)) (hx : ¬ x = 0) (k : xw_w κ l M tgt L S w E) : xw_w κ l M pc L (.int x :: S) w E := xw_if_ne h ht (fun _ => k) (fun hy => absurd hy hx)
theorem xw_if_ne_f {x : Int32} {off : Int} {tgt : Nat} (h : xw_dec M.2.1 pc (.ifCond .ne off) 3 pc') (ht : (pc : Int) + off = (tgt : Int)) (hx : x = 0) (k : xw_w κ l M pc' L S w E) : xw_w κ l M pc L (.int x :: S) w E := xw_if_ne h ht (fun hy => absurd hx hy) (fun _ => k)
theorem xw_if_ne_mi {x : Int32} {off : Int} {tgt J : Nat} {a b : Int32} (h : xw_dec M.2.1 pc (.ifCond .ne off) 3 pc') (ht : (pc : Int) + off = (tgt : Int)) (kt : ¬ x = 0 → ∀ E', xw_w κ l M J L (.int b :: S) w E' → xw_w κ l M tgt L S w E') (kf : x = 0 → ∀ E', xw_w κ l M J L (.int a :: S) w E' → xw_w κ l M pc' L S w E') (k : xw_w κ l M J L (.int (if x = 0 then a else b) :: S) w E) : xw_w κ l M pc L (.int x :: S) w E :=
  xw_if_ne h ht (fun hx => kt hx _ (by rw [if_neg hx] at k; exact k)) (fun hx => kf hx _ (by rw [if_pos hx] at k; exact k))
theorem xw_if_ne_mw {x : Int32} {off : Int} {tgt J n u : Nat} {σ a b : xs_S} {ρ : xs_R} (h : xw_dec M.2.1 pc (.ifCond .ne off) 3 pc') (ht : (pc : Int) + off = (tgt : Int)) (kt : ¬ x = 0 → ∀ E', xw_w κ l M J L S (n, u, b, ρ) E' → xw_w κ l M tgt L S (n, u, σ, ρ) E') (kf : x = 0 → ∀ E', xw_w κ l M J L S (n, u, a, ρ) E' → xw_w κ l M pc' L S (n, u, σ, ρ) E') (k : xw_w κ l M J L S (n, u, (if x = 0 then a else b), ρ) E) : xw_w κ l M pc L (.int x :: S) (n, u, σ, ρ) E :=
  xw_if_ne h ht (fun hx => kt hx _ (by rw [if_neg hx] at k; exact k)) (fun hx => kf hx _ (by rw [if_pos hx] at k; exact k))
theorem xw_if_lt_t {x : Int32} {off : Int} {tgt : Nat} (h : xw_dec M.2.1 pc (.ifCond .lt off) 3 pc') (ht : (pc : Int) + off = (tgt : Int)) (hx : x < 0) (k : xw_w κ l M tgt L S w E) : xw_w κ l M pc L (.int x :: S) w E := xw_if_lt h ht (fun _ => k) (fun hy => absurd hx hy)
theorem xw_if_lt_f {x : Int32} {off : Int} {tgt : Nat} (h : xw_dec M.2.1 pc (.ifCond .lt off) 3 pc') (ht : (pc : Int) + off = (tgt : Int)) (hx : ¬ x < 0) (k : xw_w κ l M pc' L S w E) : xw_w κ l M pc L (.int x :: S) w E := xw_if_lt h ht (fun hy => absurd hy hx) (fun _ => k)
theorem xw_if_lt_mi {x : Int32} {off : Int} {tgt J : Nat} {a b : Int32} (h : xw_dec M.2.1 pc (.ifCond .lt off) 3 pc') (ht : (pc : Int) + off = (tgt : Int)) (kt : x < 0 → ∀ E', xw_w κ l M J L (.int a :: S) w E' → xw_w κ l M tgt L S w E') (kf : ¬ x < 0 → ∀ E', xw_w κ l M J L (.int b :: S) w E' → xw_w κ l M pc' L S w E') (k : xw_w κ l M J L (.int (if x < 0 then a else b) :: S) w E) : xw_w κ l M pc L (.int x :: S) w E :=
  xw_if_lt h ht (fun hx => kt hx _ (by rw [if_pos hx] at k; exact k)) (fun hx => kf hx _ (by rw [if_neg hx] at k; exact k))
theorem xw_if_lt_mw {x : Int32} {off : Int} {tgt J n u : Nat} {σ a b : xs_S} {ρ : xs_R} (h : xw_dec M.2.1 pc (.ifCond .lt off) 3 pc') (ht : (pc : Int) + off = (tgt : Int)) (kt : x < 0 → ∀ E', xw_w κ l M J L S (n, u, a, ρ) E' → xw_w κ l M tgt L S (n, u, σ, ρ) E') (kf : ¬ x < 0 → ∀ E', xw_w κ l M J L S (n, u, b, ρ) E' → xw_w κ l M pc' L S (n, u, σ, ρ) E') (k : xw_w κ l M J L S (n, u, (if x < 0 then a else b), ρ) E) : xw_w κ l M pc L (.int x :: S) (n, u, σ, ρ) E :=
  xw_if_lt h ht (fun hx => kt hx _ (by rw [if_pos hx] at k; exact k)) (fun hx => kf hx _ (by rw [if_neg hx] at k; exact k))
theorem xw_if_ge_t {x : Int32} {off : Int} {tgt : Nat} (h : xw_dec M.2.1 pc (.ifCond .ge off) 3 pc') (ht : (pc : Int) + off = (tgt : Int)) (hx : 0 ≤ x) (k : xw_w κ l M tgt L S w E) : xw_w κ l M pc L (.int x :: S) w E := xw_if_ge h ht (fun _ => k) (fun hy => absurd hx hy)
theorem xw_if_ge_f {x : Int32} {off : Int} {tgt : Nat} (h : xw_dec M.2.1 pc (.ifCond .ge off) 3 pc') (ht : (pc : Int) + off = (tgt : Int)) (hx : ¬ 0 ≤ x) (k : xw_w κ l M pc' L S w E) : xw_w κ l M pc L (.int x :: S) w E := xw_if_ge h ht (fun hy => absurd hy hx) (fun _ => k)
theorem xw_if_ge_mi {x : Int32} {off : Int} {tgt J : Nat} {a b : Int32} (h : xw_dec M.2.1 pc (.ifCond .ge off) 3 pc') (ht : (pc : Int) + off = (tgt : Int)) (kt : 0 ≤ x → ∀ E', xw_w κ l M J L (.int a :: S) w E' → xw_w κ l M tgt L S w E') (kf : ¬ 0 ≤ x → ∀ E', xw_w κ l M J L (.int b :: S) w E' → xw_w κ l M pc' L S w E') (k : xw_w κ l M J L (.int (if 0 ≤ x then a else b) :: S) w E) : xw_w κ l M pc L (.int x :: S) w E :=
  xw_if_ge h ht (fun hx => kt hx _ (by rw [if_pos hx] at k; exact k)) (fun hx => kf hx _ (by rw [if_neg hx] at k; exact k))
theorem xw_if_ge_mw {x : Int32} {off : Int} {tgt J n u : Nat} {σ a b : xs_S} {ρ : xs_R} (h : xw_dec M.2.1 pc (.ifCond .ge off) 3 pc') (ht : (pc : Int) + off = (tgt : Int)) (kt : 0 ≤ x → ∀ E', xw_w κ l M J L S (n, u, a, ρ) E' → xw_w κ l M tgt L S (n, u, σ, ρ) E') (kf : ¬ 0 ≤ x → ∀ E', xw_w κ l M J L S (n, u, b, ρ) E' → xw_w κ l M pc' L S (n, u, σ, ρ) E') (k : xw_w κ l M J L S (n, u, (if 0 ≤ x then a else b), ρ) E) : xw_w κ l M pc L (.int x :: S) (n, u, σ, ρ) E :=
  xw_if_ge h ht (fun hx => kt hx _ (by rw [if_pos hx] at k; exact k)) (fun hx => kf hx _ (by rw [if_neg hx] at k; exact k))
theorem xw_if_gt_t {x : Int32} {off : Int} {tgt : Nat} (h : xw_dec M.2.1 pc (.ifCond .gt off) 3 pc') (ht : (pc : Int) + off = (tgt : Int)) (hx : 0 < x) (k : xw_w κ l M tgt L S w E) : xw_w κ l M pc L (.int x :: S) w E := xw_if_gt h ht (fun _ => k) (fun hy => absurd hx hy)
theorem xw_if_gt_f {x : Int32} {off : Int} {tgt : Nat} (h : xw_dec M.2.1 pc (.ifCond .gt off) 3 pc') (ht : (pc : Int) + off = (tgt : Int)) (hx : ¬ 0 < x) (k : xw_w κ l M pc' L S w E) : xw_w κ l M pc L (.int x :: S) w E := xw_if_gt h ht (fun hy => absurd hy hx) (fun _ => k)
theorem xw_if_gt_mi {x : Int32} {off : Int} {tgt J : Nat} {a b : Int32} (h : xw_dec M.2.1 pc (.ifCond .gt off) 3 pc') (ht : (pc : Int) + off = (tgt : Int)) (kt : 0 < x → ∀ E', xw_w κ l M J L (.int a :: S) w E' → xw_w κ l M tgt L S w E') (kf : ¬ 0 < x → ∀ E', xw_w κ l M J L (.int b :: S) w E' → xw_w κ l M pc' L S w E') (k : xw_w κ l M J L (.int (if 0 < x then a else b) :: S) w E) : xw_w κ l M pc L (.int x :: S) w E :=
  xw_if_gt h ht (fun hx => kt hx _ (by rw [if_pos hx] at k; exact k)) (fun hx => kf hx _ (by rw [if_neg hx] at k; exact k))
theorem xw_if_gt_mw {x : Int32} {off : Int} {tgt J n u : Nat} {σ a b : xs_S} {ρ : xs_R} (h : xw_dec M.2.1 pc (.ifCond .gt off) 3 pc') (ht : (pc : Int) + off = (tgt : Int)) (kt : 0 < x → ∀ E', xw_w κ l M J L S (n, u, a, ρ) E' → xw_w κ l M tgt L S (n, u, σ, ρ) E') (kf : ¬ 0 < x → ∀ E', xw_w κ l M J L S (n, u, b, ρ) E' → xw_w κ l M pc' L S (n, u, σ, ρ) E') (k : xw_w κ l M J L S (n, u, (if 0 < x then a else b), ρ) E) : xw_w κ l M pc L (.int x :: S) (n, u, σ, ρ) E :=
  xw_if_gt h ht (fun hx => kt hx _ (by rw [if_pos hx] at k; exact k)) (fun hx => kf hx _ (by rw [if_neg hx] at k; exact k))
theorem xw_if_le_t {x : Int32} {off : Int} {tgt : Nat} (h : xw_dec M.2.1 pc (.ifCond .le off) 3 pc') (ht : (pc : Int) + off = (tgt : Int)) (hx : x ≤ 0) (k : xw_w κ l M tgt L S w E) : xw_w κ l M pc L (.int x :: S) w E := xw_if_le h ht (fun _ => k) (fun hy => absurd hx hy)
theorem xw_if_le_f {x : Int32} {off : Int} {tgt : Nat} (h : xw_dec M.2.1 pc (.ifCond .le off) 3 pc') (ht : (pc : Int) + off = (tgt : Int)) (hx : ¬ x ≤ 0) (k : xw_w κ l M pc' L S w E) : xw_w κ l M pc L (.int x :: S) w E := xw_if_le h ht (fun hy => absurd hy hx) (fun _ => k)
theorem xw_if_le_mi {x : Int32} {off : Int} {tgt J : Nat} {a b : Int32} (h : xw_dec M.2.1 pc (.ifCond .le off) 3 pc') (ht : (pc : Int) + off = (tgt : Int)) (kt : x ≤ 0 → ∀ E', xw_w κ l M J L (.int a :: S) w E' → xw_w κ l M tgt L S w E') (kf : ¬ x ≤ 0 → ∀ E', xw_w κ l M J L (.int b :: S) w E' → xw_w κ l M pc' L S w E') (k : xw_w κ l M J L (.int (if x ≤ 0 then a else b) :: S) w E) : xw_w κ l M pc L (.int x :: S) w E :=
  xw_if_le h ht (fun hx => kt hx _ (by rw [if_pos hx] at k; exact k)) (fun hx => kf hx _ (by rw [if_neg hx] at k; exact k))
theorem xw_if_le_mw {x : Int32} {off : Int} {tgt J n u : Nat} {σ a b : xs_S} {ρ : xs_R} (h : xw_dec M.2.1 pc (.ifCond .le off) 3 pc') (ht : (pc : Int) + off = (tgt : Int)) (kt : x ≤ 0 → ∀ E', xw_w κ l M J L S (n, u, a, ρ) E' → xw_w κ l M tgt L S (n, u, σ, ρ) E') (kf : ¬ x ≤ 0 → ∀ E', xw_w κ l M J L S (n, u, b, ρ) E' → xw_w κ l M pc' L S (n, u, σ, ρ) E') (k : xw_w κ l M J L S (n, u, (if x ≤ 0 then a else b), ρ) E) : xw_w κ l M pc L (.int x :: S) (n, u, σ, ρ) E :=
  xw_if_le h ht (fun hx => kt hx _ (by rw [if_pos hx] at k; exact k)) (fun hx => kf hx _ (by rw [if_neg hx] at k; exact k))
theorem xw_icmp_eq_t {x y : Int32} {off : Int} {tgt : Nat} (h : xw_dec M.2.1 pc (.if_icmp .eq off) 3 pc') (ht : (pc : Int) + off = (tgt : Int)) (hx : x = y) (k : xw_w κ l M tgt L S w E) : xw_w κ l M pc L (.int y :: .int x :: S) w E := xw_icmp_eq h ht (fun _ => k) (fun hy => absurd hx hy)
theorem xw_icmp_eq_f {x y : Int32} {off : Int} {tgt : Nat} (h : xw_dec M.2.1 pc (.if_icmp .eq off) 3 pc') (ht : (pc : Int) + off = (tgt : Int)) (hx : ¬ x = y) (k : xw_w κ l M pc' L S w E) : xw_w κ l M pc L (.int y :: .int x :: S) w E := xw_icmp_eq h ht (fun hy => absurd hy hx) (fun _ => k)
theorem xw_icmp_eq_mi {x y : Int32} {off : Int} {tgt J : Nat} {a b : Int32} (h : xw_dec M.2.1 pc (.if_icmp .eq off) 3 pc') (ht : (pc : Int) + off = (tgt : Int)) (kt : x = y → ∀ E', xw_w κ l M J L (.int a :: S) w E' → xw_w κ l M tgt L S w E') (kf : ¬ x = y → ∀ E', xw_w κ l M J L (.int b :: S) w E' → xw_w κ l M pc' L S w E') (k : xw_w κ l M J L (.int (if x = y then a else b) :: S) w E) : xw_w κ l M pc L (.int y :: .int x :: S) w E :=
  xw_icmp_eq h ht (fun hx => kt hx _ (by rw [if_pos hx] at k; exact k)) (fun hx => kf hx _ (by rw [if_neg hx] at k; exact k))
theorem xw_icmp_eq_mw {x y : Int32} {off : Int} {tgt J n u : Nat} {σ a b : xs_S} {ρ : xs_R} (h : xw_dec M.2.1 pc (.if_icmp .eq off) 3 pc') (ht : (pc : Int) + off = (tgt : Int)) (kt : x = y → ∀ E', xw_w κ l M J L S (n, u, a, ρ) E' → xw_w κ l M tgt L S (n, u, σ, ρ) E') (kf : ¬ x = y → ∀ E', xw_w κ l M J L S (n, u, b, ρ) E' → xw_w κ l M pc' L S (n, u, σ, ρ) E') (k : xw_w κ l M J L S (n, u, (if x = y then a else b), ρ) E) : xw_w κ l M pc L (.int y :: .int x :: S) (n, u, σ, ρ) E :=
  xw_icmp_eq h ht (fun hx => kt hx _ (by rw [if_pos hx] at k; exact k)) (fun hx => kf hx _ (by rw [if_neg hx] at k; exact k))
theorem xw_icmp_ne_t {x y : Int32} {off : Int} {tgt : Nat} (h : xw_dec M.2.1 pc (.if_icmp .ne off) 3 pc') (ht : (pc : Int) + off = (tgt : Int)) (hx : ¬ x = y) (k : xw_w κ l M tgt L S w E) : xw_w κ l M pc L (.int y :: .int x :: S) w E := xw_icmp_ne h ht (fun _ => k) (fun hy => absurd hy hx)
theorem xw_icmp_ne_f {x y : Int32} {off : Int} {tgt : Nat} (h : xw_dec M.2.1 pc (.if_icmp .ne off) 3 pc') (ht : (pc : Int) + off = (tgt : Int)) (hx : x = y) (k : xw_w κ l M pc' L S w E) : xw_w κ l M pc L (.int y :: .int x :: S) w E := xw_icmp_ne h ht (fun hy => absurd hx hy) (fun _ => k)
theorem xw_icmp_ne_mi {x y : Int32} {off : Int} {tgt J : Nat} {a b : Int32} (h : xw_dec M.2.1 pc (.if_icmp .ne off) 3 pc') (ht : (pc : Int) + off = (tgt : Int)) (kt : ¬ x = y → ∀ E', xw_w κ l M J L (.int b :: S) w E' → xw_w κ l M tgt L S w E') (kf : x = y → ∀ E', xw_w κ l M J L (.int a :: S) w E' → xw_w κ l M pc' L S w E') (k : xw_w κ l M J L (.int (if x = y then a else b) :: S) w E) : xw_w κ l M pc L (.int y :: .int x :: S) w E :=
  xw_icmp_ne h ht (fun hx => kt hx _ (by rw [if_neg hx] at k; exact k)) (fun hx => kf hx _ (by rw [if_pos hx] at k; exact k))
theorem xw_icmp_ne_mw {x y : Int32} {off : Int} {tgt J n u : Nat} {σ a b : xs_S} {ρ : xs_R} (h : xw_dec M.2.1 pc (.if_icmp .ne off) 3 pc') (ht : (pc : Int) + off = (tgt : Int)) (kt : ¬ x = y → ∀ E', xw_w κ l M J L S (n, u, b, ρ) E' → xw_w κ l M tgt L S (n, u, σ, ρ) E') (kf : x = y → ∀ E', xw_w κ l M J L S (n, u, a, ρ) E' → xw_w κ l M pc' L S (n, u, σ, ρ) E') (k : xw_w κ l M J L S (n, u, (if x = y then a else b), ρ) E) : xw_w κ l M pc L (.int y :: .int x :: S) (n, u, σ, ρ) E :=
  xw_icmp_ne h ht (fun hx => kt hx _ (by rw [if_neg hx] at k; exact k)) (fun hx => kf hx _ (by rw [if_pos hx] at k; exact k))
theorem xw_icmp_lt_t {x y : Int32} {off : Int} {tgt : Nat} (h : xw_dec M.2.1 pc (.if_icmp .lt off) 3 pc') (ht : (pc : Int) + off = (tgt : Int)) (hx : x < y) (k : xw_w κ l M tgt L S w E) : xw_w κ l M pc L (.int y :: .int x :: S) w E := xw_icmp_lt h ht (fun _ => k) (fun hy => absurd hx hy)
theorem xw_icmp_lt_f {x y : Int32} {off : Int} {tgt : Nat} (h : xw_dec M.2.1 pc (.if_icmp .lt off) 3 pc') (ht : (pc : Int) + off = (tgt : Int)) (hx : ¬ x < y) (k : xw_w κ l M pc' L S w E) : xw_w κ l M pc L (.int y :: .int x :: S) w E := xw_icmp_lt h ht (fun hy => absurd hy hx) (fun _ => k)
theorem xw_icmp_lt_mi {x y : Int32} {off : Int} {tgt J : Nat} {a b : Int32} (h : xw_dec M.2.1 pc (.if_icmp .lt off) 3 pc') (ht : (pc : Int) + off = (tgt : Int)) (kt : x < y → ∀ E', xw_w κ l M J L (.int a :: S) w E' → xw_w κ l M tgt L S w E') (kf : ¬ x < y → ∀ E', xw_w κ l M J L (.int b :: S) w E' → xw_w κ l M pc' L S w E') (k : xw_w κ l M J L (.int (if x < y then a else b) :: S) w E) : xw_w κ l M pc L (.int y :: .int x :: S) w E :=
  xw_icmp_lt h ht (fun hx => kt hx _ (by rw [if_pos hx] at k; exact k)) (fun hx => kf hx _ (by rw [if_neg hx] at k; exact k))
theorem xw_icmp_lt_mw {x y : Int32} {off : Int} {tgt J n u : Nat} {σ a b : xs_S} {ρ : xs_R} (h : xw_dec M.2.1 pc (.if_icmp .lt off) 3 pc') (ht : (pc : Int) + off = (tgt : Int)) (kt : x < y → ∀ E', xw_w κ l M J L S (n, u, a, ρ) E' → xw_w κ l M tgt L S (n, u, σ, ρ) E') (kf : ¬ x < y → ∀ E', xw_w κ l M J L S (n, u, b, ρ) E' → xw_w κ l M pc' L S (n, u, σ, ρ) E') (k : xw_w κ l M J L S (n, u, (if x < y then a else b), ρ) E) : xw_w κ l M pc L (.int y :: .int x :: S) (n, u, σ, ρ) E :=
  xw_icmp_lt h ht (fun hx => kt hx _ (by rw [if_pos hx] at k; exact k)) (fun hx => kf hx _ (by rw [if_neg hx] at k; exact k))
theorem xw_icmp_ge_t {x y : Int32} {off : Int} {tgt : Nat} (h : xw_dec M.2.1 pc (.if_icmp .ge off) 3 pc') (ht : (pc : Int) + off = (tgt : Int)) (hx : y ≤ x) (k : xw_w κ l M tgt L S w E) : xw_w κ l M pc L (.int y :: .int x :: S) w E := xw_icmp_ge h ht (fun _ => k) (fun hy => absurd hx hy)
theorem xw_icmp_ge_f {x y : Int32} {off : Int} {tgt : Nat} (h : xw_dec M.2.1 pc (.if_icmp .ge off) 3 pc') (ht : (pc : Int) + off = (tgt : Int)) (hx : ¬ y ≤ x) (k : xw_w κ l M pc' L S w E) : xw_w κ l M pc L (.int y :: .int x :: S) w E := xw_icmp_ge h ht (fun hy => absurd hy hx) (fun _ => k)
theorem xw_icmp_ge_mi {x y : Int32} {off : Int} {tgt J : Nat} {a b : Int32} (h : xw_dec M.2.1 pc (.if_icmp .ge off) 3 pc') (ht : (pc : Int) + off = (tgt : Int)) (kt : y ≤ x → ∀ E', xw_w κ l M J L (.int a :: S) w E' → xw_w κ l M tgt L S w E') (kf : ¬ y ≤ x → ∀ E', xw_w κ l M J L (.int b :: S) w E' → xw_w κ l M pc' L S w E') (k : xw_w κ l M J L (.int (if y ≤ x then a else b) :: S) w E) : xw_w κ l M pc L (.int y :: .int x :: S) w E :=
  xw_icmp_ge h ht (fun hx => kt hx _ (by rw [if_pos hx] at k; exact k)) (fun hx => kf hx _ (by rw [if_neg hx] at k; exact k))
theorem xw_icmp_ge_mw {x y : Int32} {off : Int} {tgt J n u : Nat} {σ a b : xs_S} {ρ : xs_R} (h : xw_dec M.2.1 pc (.if_icmp .ge off) 3 pc') (ht : (pc : Int) + off = (tgt : Int)) (kt : y ≤ x → ∀ E', xw_w κ l M J L S (n, u, a, ρ) E' → xw_w κ l M tgt L S (n, u, σ, ρ) E') (kf : ¬ y ≤ x → ∀ E', xw_w κ l M J L S (n, u, b, ρ) E' → xw_w κ l M pc' L S (n, u, σ, ρ) E') (k : xw_w κ l M J L S (n, u, (if y ≤ x then a else b), ρ) E) : xw_w κ l M pc L (.int y :: .int x :: S) (n, u, σ, ρ) E :=
  xw_icmp_ge h ht (fun hx => kt hx _ (by rw [if_pos hx] at k; exact k)) (fun hx => kf hx _ (by rw [if_neg hx] at k; exact k))
theorem xw_icmp_gt_t {x y : Int32} {off : Int} {tgt : Nat} (h : xw_dec M.2.1 pc (.if_icmp .gt off) 3 pc') (ht : (pc : Int) + off = (tgt : Int)) (hx : y < x) (k : xw_w κ l M tgt L S w E) : xw_w κ l M pc L (.int y :: .int x :: S) w E := xw_icmp_gt h ht (fun _ => k) (fun hy => absurd hx hy)
theorem xw_icmp_gt_f {x y : Int32} {off : Int} {tgt : Nat} (h : xw_dec M.2.1 pc (.if_icmp .gt off) 3 pc') (ht : (pc : Int) + off = (tgt : Int)) (hx : ¬ y < x) (k : xw_w κ l M pc' L S w E) : xw_w κ l M pc L (.int y :: .int x :: S) w E := xw_icmp_gt h ht (fun hy => absurd hy hx) (fun _ => k)
theorem xw_icmp_gt_mi {x y : Int32} {off : Int} {tgt J : Nat} {a b : Int32} (h : xw_dec M.2.1 pc (.if_icmp .gt off) 3 pc') (ht : (pc : Int) + off = (tgt : Int)) (kt : y < x → ∀ E', xw_w κ l M J L (.int a :: S) w E' → xw_w κ l M tgt L S w E') (kf : ¬ y < x → ∀ E', xw_w κ l M J L (.int b :: S) w E' → xw_w κ l M pc' L S w E') (k : xw_w κ l M J L (.int (if y < x then a else b) :: S) w E) : xw_w κ l M pc L (.int y :: .int x :: S) w E :=
  xw_icmp_gt h ht (fun hx => kt hx _ (by rw [if_pos hx] at k; exact k)) (fun hx => kf hx _ (by rw [if_neg hx] at k; exact k))
theorem xw_icmp_gt_mw {x y : Int32} {off : Int} {tgt J n u : Nat} {σ a b : xs_S} {ρ : xs_R} (h : xw_dec M.2.1 pc (.if_icmp .gt off) 3 pc') (ht : (pc : Int) + off = (tgt : Int)) (kt : y < x → ∀ E', xw_w κ l M J L S (n, u, a, ρ) E' → xw_w κ l M tgt L S (n, u, σ, ρ) E') (kf : ¬ y < x → ∀ E', xw_w κ l M J L S (n, u, b, ρ) E' → xw_w κ l M pc' L S (n, u, σ, ρ) E') (k : xw_w κ l M J L S (n, u, (if y < x then a else b), ρ) E) : xw_w κ l M pc L (.int y :: .int x :: S) (n, u, σ, ρ) E :=
  xw_icmp_gt h ht (fun hx => kt hx _ (by rw [if_pos hx] at k; exact k)) (fun hx => kf hx _ (by rw [if_neg hx] at k; exact k))
theorem xw_icmp_le_t {x y : Int32} {off : Int} {tgt : Nat} (h : xw_dec M.2.1 pc (.if_icmp .le off) 3 pc') (ht : (pc : Int) + off = (tgt : Int)) (hx : x ≤ y) (k : xw_w κ l M tgt L S w E) : xw_w κ l M pc L (.int y :: .int x :: S) w E := xw_icmp_le h ht (fun _ => k) (fun hy => absurd hx hy)
theorem xw_icmp_le_f {x y : Int32} {off : Int} {tgt : Nat} (h : xw_dec M.2.1 pc (.if_icmp .le off) 3 pc') (ht : (pc : Int) + off = (tgt : Int)) (hx : ¬ x ≤ y) (k : xw_w κ l M pc' L S w E) : xw_w κ l M pc L (.int y :: .int x :: S) w E := xw_icmp_le h ht (fun hy => absurd hy hx) (fun _ => k)
theorem xw_icmp_le_mi {x y : Int32} {off : Int} {tgt J : Nat} {a b : Int32} (h : xw_dec M.2.1 pc (.if_icmp .le off) 3 pc') (ht : (pc : Int) + off = (tgt : Int)) (kt : x ≤ y → ∀ E', xw_w κ l M J L (.int a :: S) w E' → xw_w κ l M tgt L S w E') (kf : ¬ x ≤ y → ∀ E', xw_w κ l M J L (.int b :: S) w E' → xw_w κ l M pc' L S w E') (k : xw_w κ l M J L (.int (if x ≤ y then a else b) :: S) w E) : xw_w κ l M pc L (.int y :: .int x :: S) w E :=
  xw_icmp_le h ht (fun hx => kt hx _ (by rw [if_pos hx] at k; exact k)) (fun hx => kf hx _ (by rw [if_neg hx] at k; exact k))
theorem xw_icmp_le_mw {x y : Int32} {off : Int} {tgt J n u : Nat} {σ a b : xs_S} {ρ : xs_R} (h : xw_dec M.2.1 pc (.if_icmp .le off) 3 pc') (ht : (pc : Int) + off = (tgt : Int)) (kt : x ≤ y → ∀ E', xw_w κ l M J L S (n, u, a, ρ) E' → xw_w κ l M tgt L S (n, u, σ, ρ) E') (kf : ¬ x ≤ y → ∀ E', xw_w κ l M J L S (n, u, b, ρ) E' → xw_w κ l M pc' L S (n, u, σ, ρ) E') (k : xw_w κ l M J L S (n, u, (if x ≤ y then a else b), ρ) E) : xw_w κ l M pc L (.int y :: .int x :: S) (n, u, σ, ρ) E :=
  xw_icmp_le h ht (fun hx => kt hx _ (by rw [if_pos hx] at k; exact k)) (fun hx => kf hx _ (by rw [if_neg hx] at k; exact k))
/-- a value gets a name -/
theorem xw_li {x : Int32} {β : Type} {φ : β → xw_O × xw_W} {f : Int32 → β} (k : ∀ y, y = x → xw_w κ l M pc L (.int y :: S) w (φ (f y))) : xw_w κ l M pc L (.int x :: S) w (φ (xl_l x f)) := k x rfl
theorem xw_lj {x : Int64} {β : Type} {φ : β → xw_O × xw_W} {f : Int64 → β} (k : ∀ y, y = x → xw_w κ l M pc L (.long y :: S) w (φ (f y))) : xw_w κ l M pc L (.long x :: S) w (φ (xl_l x f)) := k x rfl
theorem xw_lw {n u : Nat} {x : xs_S} {ρ : xs_R} {β : Type} {φ : β → xw_O × xw_W} {f : xs_S → β} (k : ∀ y, y = x → xw_w κ l M pc L S (n, u, y, ρ) (φ (f y))) : xw_w κ l M pc L S (n, u, x, ρ) (φ (xl_l x f)) := k x rfl
theorem xw_lp {n u : Nat} {α : Type} {x : α × xs_S} {ρ : xs_R} {β : Type} {φ : β → xw_O × xw_W} {f : α × xs_S → β} (k : ∀ y, y = x → xw_w κ l M pc L S (n, u, y.2, ρ) (φ (f y))) : xw_w κ l M pc L S (n, u, x.2, ρ) (φ (xl_l x f)) := k x rfl
end XI
