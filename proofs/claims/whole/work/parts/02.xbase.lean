/-! The small machine: worlds of cells by number; what a state of the machine holds of them. -/
abbrev xs_S : Type := Nat → Nat → Int32
abbrev xs_R : Type := Nat → Nat → Option Nat
/-- cells made, slots made, the ints, the references -/
abbrev xw_W : Type := Nat × Nat × xs_S × xs_R
/-- returned, or threw the cell -/
abbrev xw_O : Type := Option Value ⊕ Nat
/-- name, code, locals, answer, handlers, frames and words that it needs -/
abbrev xw_M : Type := MethodName × ByteArray × Nat × Option FieldType × List (Nat × Nat × Nat × Nat) × Nat × Nat
/-- the classes' numbers and slots; the classes of int arrays, of boolean arrays, of the exception; where cell 0 is, where the others begin -/
abbrev xw_G : Type := va_G × (ClassId × ClassId × ClassId) × (Nat × Nat)
/-- where a cell is: each is made at the heap's end -/
def xw_ad (G : xw_G) (i : Nat) : Nat := if i = 0 then G.2.2.1 else G.2.2.2 + (i - 1)
abbrev xw_dec (c : ByteArray) (pc : Nat) (i : Instr) (len pc' : Nat) : Prop := decode c pc = .ok (i, len) ∧ pc + len = pc'
def xu_u (σ : xs_S) (i k : Nat) (v : Int32) : xs_S := fun a b => if a = i then (if b = k then v else σ a b) else σ a b
def xu_z (σ : xs_S) (n : Nat) : xs_S := fun a b => if a = n then 0 else σ a b
def xu_r (ρ : xs_R) (i k : Nat) (v : Option Nat) : xs_R := fun a b => if a = i then (if b = k then v else ρ a b) else ρ a b
def xu_n (ρ : xs_R) (n : Nat) : xs_R := fun a b => if a = n then none else ρ a b
theorem xu_ne {σ : xs_S} {i k a b : Nat} {v : Int32} (h : a ≠ i) : xu_u σ i k v a b = σ a b := by simp [xu_u, h]
theorem xu_zn {σ : xs_S} {n a b : Nat} (h : a ≠ n) : xu_z σ n a b = σ a b := by simp [xu_z, h]
theorem xu_zz {σ : xs_S} {n b : Nat} : xu_z σ n n b = 0 := by simp [xu_z]
theorem xu_rn {ρ : xs_R} {i k a b : Nat} {v : Option Nat} (h : a ≠ i) : xu_r ρ i k v a b = ρ a b := by simp [xu_r, h]
theorem xu_nn {ρ : xs_R} {n a b : Nat} (h : a ≠ n) : xu_n ρ n a b = ρ a b := by simp [xu_n, h]
theorem xu_nz {ρ : xs_R} {n b : Nat} : xu_n ρ n n b = none := by simp [xu_n]
def xw_tv (G : xw_G) : Value → Value
  | .ref i => .ref (xw_ad G i)
  | v => v
theorem xw_tv_cat (G : xw_G) (v : Value) : (xw_tv G v).category = v.category := by cases v <;> rfl
theorem xw_tv_sum (G : xw_G) (S : List Value) : ((S.map (xw_tv G)).map fun v => v.category).sum = (S.map fun v => v.category).sum := by
  rw [List.map_map]
  congr 1
  exact List.map_congr_left fun v _ => xw_tv_cat G v
theorem xw_ad0 (G : xw_G) : xw_ad G 0 = G.2.2.1 := by simp [xw_ad]
theorem xw_adp (G : xw_G) {i : Nat} (h : 0 < i) : xw_ad G i = G.2.2.2 + (i - 1) := by simp [xw_ad, Nat.ne_of_gt h]
theorem xw_adi {G : xw_G} (hb : G.2.2.1 < G.2.2.2) {i j : Nat} (h : xw_ad G i = xw_ad G j) : i = j := by
  unfold xw_ad at h
  split at h <;> split at h <;> omega
/-- a field: 0 an int, 1 a boolean, 2 a reference -/
def xw_fv (ft : Nat) (G : xw_G) (x : Int32) (r : Option Nat) : Value := if ft = 2 then va_rf (r.map (xw_ad G)) else .int x
/-- a static that holds a reference or null; its cell is none of ours -/
def xw_z (C n d : String) (U : State) (H : Heap) : Prop := ∃ (c : ClassId) (k : Class) (i : Nat) (f : Field) (a : Nat) (cell : Cell), U.vm.findClass C = some c ∧ U.fieldFound? C n d = some (c, k, i, f) ∧ f.isStatic = true ∧ k.statics = some a ∧ H[a]? = some cell ∧ cell.vm.isStatics = true ∧ cell.cls = c ∧ f.slot < cell.slots.size ∧ k.staticTypes[f.slot]? = some f.type ∧ (cell.slots[f.slot]? = some .null ∨ ∃ t, cell.slots[f.slot]? = some (.ref t))
theorem xw_z.moved {C n d : String} {u U : State} {H : Heap} (hvm : u.vm.Alike U.vm) (h : xw_z C n d u H) : xw_z C n d U H := by
  obtain ⟨c, k, i, f, a, cell, h1, h2, h3, h4, h5, h6, h7, h8, h9, h10⟩ := h
  obtain ⟨k', hi', he⟩ := State.fieldFound?_setVm hvm h2
  exact ⟨c, k', i, f, a, cell, by rw [hvm.findClass]; exact h1, hi', h3, by rw [he]; exact h4, h5, h6, h7, h8, by rw [he]; exact h9, h10⟩
theorem xw_z.kept {C n d : String} {U : State} {H H1 : Heap} (h : xw_z C n d U H) (hq : ∀ (a : Nat) (cell : Cell), H[a]? = some cell → cell.vm.isStatics = true → H1[a]? = some cell) : xw_z C n d U H1 := by
  obtain ⟨c, k, i, f, a, cell, h1, h2, h3, h4, h5, h6, h7⟩ := h
  exact ⟨c, k, i, f, a, cell, h1, h2, h3, h4, hq a cell h5 h6, h6, h7⟩
theorem xw_z.of {args : Array Value} {s : State} {C n d : String} (hl : (Cond.laysStatic C n d).before args s = true) (hr : (Cond.isRef (.static C n d)).before args s = true) : xw_z C n d s s.heap := by
  obtain ⟨c, k, i, f, a, cell, hc, hi, hst, ha, hcell, hs, hcls, hlt, hty⟩ := Cond.laysStatic_spec hl
  refine ⟨c, k, i, f, a, cell, hc, hi, hst, ha, hcell, hs, hcls, hlt, hty, ?_⟩
  cases hv : (Term.static C n d).eval args s none [] s with
  | none => simp [Cond.before, Cond.holds, Cond.value, hv] at hr
  | some w =>
    obtain ⟨hst', a', cell', ha', hcell', -, hslot⟩ := Term.static_spec hi hv
    cases ha.symm.trans ha'
    cases hcell.symm.trans hcell'
    simp only [Cond.before, Cond.holds, Cond.value, hv] at hr
    cases w with
    | null => exact Or.inl hslot
    | ref t => exact Or.inr ⟨t, hslot⟩
    | _ => simp at hr
theorem xw_z.lays {args : Array Value} {s : State} {C n d : String} (h : xw_z C n d s s.heap) : (Cond.laysStatic C n d).before args s = true := by
  obtain ⟨c, k, i, f, a, cell, hc, hi, hst, ha, hcell, hs, hcls, hlt, hty, -⟩ := h
  exact Cond.laysStatic_of hc hi hst ha hcell hs hcls hlt hty
theorem xw_z.isRef {args : Array Value} {s : State} {C n d : String} (h : xw_z C n d s s.heap) : (Cond.isRef (.static C n d)).before args s = true := by
  obtain ⟨c, k, i, f, a, cell, hc, hi, hst, ha, hcell, hs, hcls, hlt, hty, hv⟩ := h
  have he : ∃ v : Value, (Term.static C n d).eval args s none [] s = some v ∧ (v = .null ∨ ∃ t, v = .ref t) := by
    rcases hv with hv | ⟨t, hv⟩
    · exact ⟨.null, by simp [Term.eval, State.fieldNamed?, hi, hst, ha, hcell, hs, hv], Or.inl rfl⟩
    · exact ⟨.ref t, by simp [Term.eval, State.fieldNamed?, hi, hst, ha, hcell, hs, hv], Or.inr ⟨t, rfl⟩⟩
  obtain ⟨v, e1, e2⟩ := he
  rcases e2 with rfl | ⟨t, rfl⟩ <;> simp [Cond.before, Cond.holds, Cond.value, e1]
/-- words that hold on under warmer tables -/
def xw_gw : Cond → Bool
  | .arrayClass _ => true
  | .methodLinkNest .. => true
  | w => w.onTables && w.keepsFace
theorem xw_gw_move {s U : State} {args a' : Array Value} (hW : s.WarmedH U.vm) {c : Cond} (hc : xw_gw c = true) (h : c.before args s = true) : c.before a' U = true := by
  have key : ∀ c : Cond, (c.onTables && c.keepsFace) = true → c.before args s = true → c.before a' U = true := by
    intro c hc h
    simp only [Bool.and_eq_true] at hc
    have h1 : c.before args (s.setVm U.vm) = true := Cond.before_shiftedFace (State.Shifted.of_warmed hW) c hc.2 h
    have h2 := Cond.onTables_vm (A := args) (A' := a') (U := s) (U' := U) U.vm c hc.1
    rw [State.setVm_self] at h2
    rw [← h2]
    exact h1
  cases c with
  | arrayClass ty => exact word_at hW (Or.inr ⟨ty, rfl⟩) h
  | methodLinkNest a i x hh =>
    have h0 : va_Nw (.methodLinkNest a i x hh) s := va_Nw.of rfl h
    exact va_Nw.use rfl (va_Nw.warmM hW h0)
  | _ => exact key _ hc h
