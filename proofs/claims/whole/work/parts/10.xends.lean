/-! How methods end, by kind; calls by kind. -/
def ei_i (x : Int32) : Option Value := some (.int x)
def el_l (x : Int64) : Option Value := some (.long x)
def er_r (i : Nat) : Option Value := some (.ref i)
def eu_u (_ : Unit) : Option Value := none
abbrev xp_P (α : Type) : Type := Option α × xs_S
def xp_b {α β : Type} (r : xp_P α) (f : α → xs_S → xp_P β) : xp_P β := match r with
  | (some a, σ) => f a σ
  | (none, σ) => (none, σ)
/-- it answers v and changes nothing -/
def xe_v {α : Type} (en : α → Option Value) (n u : Nat) (σ : xs_S) (v : α) : xw_O × xw_W := (.inl (en v), (n, u, σ, xr_0))
/-- it leaves σ -/
def xe_w (n u : Nat) (σ : xs_S) : xw_O × xw_W := (.inl none, (n, u, σ, xr_0))
/-- it answers and leaves -/
def xe_p {α : Type} (en : α → Option Value) (n u : Nat) (r : α × xs_S) : xw_O × xw_W := (.inl (en r.1), (n, u, r.2, xr_0))
/-- it answers and leaves, or throws -/
def xe_t {α : Type} (en : α → Option Value) (n u : Nat) (r : xp_P α) : xw_O × xw_W := match r with
  | (some a, σ) => (.inl (en a), (n, u, σ, xr_0))
  | (none, σ) => (.inr n, (n + 1, u + 6, σ, xr_0))
abbrev xw_rm (M M' : xw_M) (rest : List Value) : Prop := M'.2.2.2.2.2.1 + 1 ≤ M.2.2.2.2.2.1 ∧ (rest.map fun v => v.category).sum + (M'.2.2.1 + 11) + M'.2.2.2.2.2.2 ≤ M.2.2.2.2.2.2
section XE
variable {κ : Nat → Nat × Nat} {l : Launch} {M M' : xw_M} {pc pc' n u len : Nat} {L : List (Option Value)} {S rest As : List Value} {w w1 : xw_W} {E : xw_O × xw_W} {σ : xs_S} {ig : Instr}
theorem xw_c0 {v : Option Value} (h : xw_dec M.2.1 pc ig len pc') (hlk : xw_lk κ l M M' pc w S rest As) (hok : xw_ok M') (hM : xm_m κ l M' As w (.inl v, w1)) (hroom : xw_rm M M' rest) (k : xw_w κ l M pc' L (v.toList ++ rest) w1 E) : xw_w κ l M pc L S w E := by
  obtain ⟨hdg, rfl⟩ := h
  refine xw_core hdg hlk hok hM hroom (fun v' hv => ?_) (fun i hi => by cases hi)
  have e : v = v' := Sum.inl.inj hv
  rw [← e]
  exact k
theorem xw_cVi {x : Int32} (h : xw_dec M.2.1 pc ig len pc') (hlk : xw_lk κ l M M' pc (n, u, σ, xr_0) S rest As) (hok : xw_ok M') (hM : xm_m κ l M' As (n, u, σ, xr_0) (xe_v ei_i n u σ x)) (hroom : xw_rm M M' rest) (k : xw_w κ l M pc' L (.int x :: rest) (n, u, σ, xr_0) E) : xw_w κ l M pc L S (n, u, σ, xr_0) E := xw_c0 h hlk hok hM hroom k
theorem xw_cVr {x : Nat} (h : xw_dec M.2.1 pc ig len pc') (hlk : xw_lk κ l M M' pc (n, u, σ, xr_0) S rest As) (hok : xw_ok M') (hM : xm_m κ l M' As (n, u, σ, xr_0) (xe_v er_r n u σ x)) (hroom : xw_rm M M' rest) (k : xw_w κ l M pc' L (.ref x :: rest) (n, u, σ, xr_0) E) : xw_w κ l M pc L S (n, u, σ, xr_0) E := xw_c0 h hlk hok hM hroom k
theorem xw_cW {σ' : xs_S} (h : xw_dec M.2.1 pc ig len pc') (hlk : xw_lk κ l M M' pc (n, u, σ, xr_0) S rest As) (hok : xw_ok M') (hM : xm_m κ l M' As (n, u, σ, xr_0) (xe_w n u σ')) (hroom : xw_rm M M' rest) (k : xw_w κ l M pc' L rest (n, u, σ', xr_0) E) : xw_w κ l M pc L S (n, u, σ, xr_0) E := xw_c0 h hlk hok hM hroom k
theorem xw_cPi {r : Int32 × xs_S} (h : xw_dec M.2.1 pc ig len pc') (hlk : xw_lk κ l M M' pc (n, u, σ, xr_0) S rest As) (hok : xw_ok M') (hM : xm_m κ l M' As (n, u, σ, xr_0) (xe_p ei_i n u r)) (hroom : xw_rm M M' rest) (k : xw_w κ l M pc' L (.int r.1 :: rest) (n, u, r.2, xr_0) E) : xw_w κ l M pc L S (n, u, σ, xr_0) E := xw_c0 h hlk hok hM hroom k
/-- a call that may throw, out of a method that lets it through -/
theorem xw_cT {α β : Type} {en : α → Option Value} {en' : β → Option Value} {Fc : xp_P α} {f : α → xs_S → xp_P β} (h : xw_dec M.2.1 pc ig len pc') (hlk : xw_lk κ l M M' pc (n, u, σ, xr_0) S rest As) (hok : xw_ok M') (hM : xm_m κ l M' As (n, u, σ, xr_0) (xe_t en n u Fc)) (hroom : xw_rm M M' rest)
    (hout : M.2.2.2.2.1.all (fun x => !(decide (x.1 ≤ pc) && decide (pc < x.2.1))) = true) (k : ∀ a σ1, Fc = (some a, σ1) → xw_w κ l M pc' L ((en a).toList ++ rest) (n, u, σ1, xr_0) (xe_t en' n u (f a σ1))) : xw_w κ l M pc L S (n, u, σ, xr_0) (xe_t en' n u (xp_b Fc f)) := by
  obtain ⟨hdg, rfl⟩ := h
  obtain ⟨o, σ1⟩ := Fc
  cases o with
  | none =>
    refine xw_core hdg hlk hok hM hroom (fun v' hv => by cases hv) (fun i hi => ?_)
    have e : n = i := Sum.inr.inj hi
    rw [← e]
    exact xw_tl hout
  | some a =>
    refine xw_core hdg hlk hok hM hroom (fun v' hv => ?_) (fun i hi => by cases hi)
    have e : en a = v' := Sum.inl.inj hv
    rw [← e]
    exact k a σ1 rfl
theorem xw_cTi {β : Type} {en' : β → Option Value} {Fc : xp_P Int32} {f : Int32 → xs_S → xp_P β} (h : xw_dec M.2.1 pc ig len pc') (hlk : xw_lk κ l M M' pc (n, u, σ, xr_0) S rest As) (hok : xw_ok M') (hM : xm_m κ l M' As (n, u, σ, xr_0) (xe_t ei_i n u Fc)) (hroom : xw_rm M M' rest)
    (hout : M.2.2.2.2.1.all (fun x => !(decide (x.1 ≤ pc) && decide (pc < x.2.1))) = true) (k : ∀ a σ1, Fc = (some a, σ1) → xw_w κ l M pc' L (.int a :: rest) (n, u, σ1, xr_0) (xe_t en' n u (f a σ1))) : xw_w κ l M pc L S (n, u, σ, xr_0) (xe_t en' n u (xp_b Fc f)) := xw_cT h hlk hok hM hroom hout k
theorem xw_cTl {β : Type} {en' : β → Option Value} {Fc : xp_P Int64} {f : Int64 → xs_S → xp_P β} (h : xw_dec M.2.1 pc ig len pc') (hlk : xw_lk κ l M M' pc (n, u, σ, xr_0) S rest As) (hok : xw_ok M') (hM : xm_m κ l M' As (n, u, σ, xr_0) (xe_t el_l n u Fc)) (hroom : xw_rm M M' rest)
    (hout : M.2.2.2.2.1.all (fun x => !(decide (x.1 ≤ pc) && decide (pc < x.2.1))) = true) (k : ∀ a σ1, Fc = (some a, σ1) → xw_w κ l M pc' L (.long a :: rest) (n, u, σ1, xr_0) (xe_t en' n u (f a σ1))) : xw_w κ l M pc L S (n, u, σ, xr_0) (xe_t en' n u (xp_b Fc f)) := xw_cT h hlk hok hM hroom hout k
theorem xw_cTu {β : Type} {en' : β → Option Value} {Fc : xp_P Unit} {f : Unit → xs_S → xp_P β} (h : xw_dec M.2.1 pc ig len pc') (hlk : xw_lk κ l M M' pc (n, u, σ, xr_0) S rest As) (hok : xw_ok M') (hM : xm_m κ l M' As (n, u, σ, xr_0) (xe_t eu_u n u Fc)) (hroom : xw_rm M M' rest)
    (hout : M.2.2.2.2.1.all (fun x => !(decide (x.1 ≤ pc) && decide (pc < x.2.1))) = true) (k : ∀ a σ1, Fc = (some a, σ1) → xw_w κ l M pc' L rest (n, u, σ1, xr_0) (xe_t en' n u (f a σ1))) : xw_w κ l M pc L S (n, u, σ, xr_0) (xe_t en' n u (xp_b Fc f)) := xw_cT h hlk hok hM hroom hout k
/-- a call that may throw, under the method's own handler -/
theorem xw_cC {α : Type} {en : α → Option Value} {Fc : xp_P α} {p0 p1 hp ct : Nat} (h : xw_dec M.2.1 pc ig len pc') (hlk : xw_lk κ l M M' pc (n, u, σ, xr_0) S rest As) (hok : xw_ok M') (hM : xm_m κ l M' As (n, u, σ, xr_0) (xe_t en n u Fc)) (hroom : xw_rm M M' rest)
    (hh : M.2.2.2.2.1 = [(p0, p1, hp, ct)]) (hcov : p0 ≤ pc ∧ pc < p1) (hct : ct ≠ 0) (hlink : Cond.classLink M.1.cls ct "java/lang/IllegalStateException" ∈ xw_T) (hcast : Cond.castable "java/lang/IllegalStateException" "java/lang/IllegalStateException" ∈ xw_T) (hκ : 4 ≤ (κ n).1)
    (k : ∀ a σ1, Fc = (some a, σ1) → xw_w κ l M pc' L ((en a).toList ++ rest) (n, u, σ1, xr_0) E) (k2 : ∀ σ1, Fc = (none, σ1) → xw_w κ l M hp L [.ref n] (n + 1, u + 6, σ1, xr_0) E) : xw_w κ l M pc L S (n, u, σ, xr_0) E := by
  obtain ⟨hdg, rfl⟩ := h
  obtain ⟨o, σ1⟩ := Fc
  cases o with
  | none =>
    refine xw_core hdg hlk hok hM hroom (fun v' hv => by cases hv) (fun i hi => ?_)
    have e : n = i := Sum.inr.inj hi
    rw [← e]
    exact xw_tc hh hcov hct hlink hcast (Nat.lt_succ_self n) hκ (k2 σ1 rfl)
  | some a =>
    refine xw_core hdg hlk hok hM hroom (fun v' hv => ?_) (fun i hi => by cases hi)
    have e : en a = v' := Sum.inl.inj hv
    rw [← e]
    exact k a σ1 rfl
end XE
theorem xl_n {n i : Nat} (hn : 29 ≤ n) (h : i < 29) : i < n := Nat.lt_of_lt_of_le h hn
theorem vi_c (x : Int32) (n : Nat) (h : (!(decide (x < 0)) && decide (x.toNatClampNeg < n)) = true) : vp_in x n := by
  simp only [Bool.and_eq_true, Bool.not_eq_true', decide_eq_false_iff_not, decide_eq_true_eq] at h
  intro z
  rcases z with z | z
  · exact h.1 z
  · exact Nat.not_le.mpr h.2 z
