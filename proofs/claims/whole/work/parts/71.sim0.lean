/-! The two machines side by side: what ties them, how their methods go together. -/
def zf_F (l : List Nat) (σ σ' : xs_S) : Prop := ∀ i, i ∉ l → σ' i = σ i
theorem zf_r {l : List Nat} {σ : xs_S} : zf_F l σ σ := fun _ _ => rfl
theorem zf_t {l : List Nat} {σ σ1 σ2 : xs_S} (h1 : zf_F l σ σ1) (h2 : zf_F l σ1 σ2) : zf_F l σ σ2 := fun i hi => (h2 i hi).trans (h1 i hi)
theorem zf_m {l l' : List Nat} {σ σ' : xs_S} (h : zf_F l σ σ') (hl : ∀ i ∈ l, i ∈ l') : zf_F l' σ σ' := fun i hi => h i (fun z => hi (hl i z))
theorem zf_u {l : List Nat} {σ σ' : xs_S} {i k : Nat} {v : Int32} (h : zf_F l σ σ') (hi : i ∈ l) : zf_F l σ (xu_u σ' i k v) := fun j hj => by
  have hne : j ≠ i := fun e => hj (e ▸ hi)
  rw [← h j hj]
  funext b
  exact xu_ne hne
/-- row 18 but for the fault's address and what is raised -/
def zk_K (τ τ' : xs_S) : Prop := ∀ k, k ≠ 7 → k ≠ 9 → τ' 18 k = τ 18 k
theorem zk_r {τ : xs_S} : zk_K τ τ := fun _ _ _ => rfl
theorem zk_t {τ τ1 τ2 : xs_S} (h1 : zk_K τ τ1) (h2 : zk_K τ1 τ2) : zk_K τ τ2 := fun k a b => (h2 k a b).trans (h1 k a b)
theorem zk_c {τ τ' : xs_S} {i k : Nat} {v : Int32} (h : zk_K τ τ') (hi : 18 ≠ i) : zk_K τ (xu_u τ' i k v) := fun j a b => by
  rw [xu_ne hi]
  exact h j a b
theorem zk_7 {τ τ' : xs_S} {v : Int32} (h : zk_K τ τ') : zk_K τ (xu_u τ' 18 7 v) := fun j a b => by
  rw [xu_off (fun z => a z.2)]
  exact h j a b
theorem zk_9 {τ τ' : xs_S} {v : Int32} (h : zk_K τ τ') : zk_K τ (xu_u τ' 18 9 v) := fun j a b => by
  rw [xu_off (fun z => b z.2)]
  exact h j a b
def zF (lc lr : List Nat) (σ σ' τ τ' : xs_S) : Prop := zf_F lc σ σ' ∧ zf_F lr τ τ' ∧ zk_K τ τ'
theorem zF_r {lc lr : List Nat} {σ τ : xs_S} : zF lc lr σ σ τ τ := ⟨zf_r, zf_r, zk_r⟩
theorem zF_t {lc lr : List Nat} {σ σ1 σ2 τ τ1 τ2 : xs_S} (h1 : zF lc lr σ σ1 τ τ1) (h2 : zF lc lr σ1 σ2 τ1 τ2) : zF lc lr σ σ2 τ τ2 := ⟨zf_t h1.1 h2.1, zf_t h1.2.1 h2.2.1, zk_t h1.2.2 h2.2.2⟩
theorem zF_m {lc lr lc' lr' : List Nat} {σ σ' τ τ' : xs_S} (h : zF lc lr σ σ' τ τ') (h1 : ∀ i ∈ lc, i ∈ lc') (h2 : ∀ i ∈ lr, i ∈ lr') : zF lc' lr' σ σ' τ τ' := ⟨zf_m h.1 h1, zf_m h.2.1 h2, h.2.2⟩
theorem zF_c {lc lr : List Nat} {σ σ' τ τ' : xs_S} {i k : Nat} {v : Int32} (h : zF lc lr σ σ' τ τ') (hi : i ∈ lc) : zF lc lr σ (xu_u σ' i k v) τ τ' := ⟨zf_u h.1 hi, h.2⟩
theorem zF_y {lc lr : List Nat} {σ σ' τ τ' : xs_S} {i k : Nat} {v : Int32} (h : zF lc lr σ σ' τ τ') (hi : i ∈ lr) (hn : 18 ≠ i) : zF lc lr σ σ' τ (xu_u τ' i k v) := ⟨h.1, zf_u h.2.1 hi, zk_c h.2.2 hn⟩
/-- what does not change within an instruction -/
def zg_G (σ τ : xs_S) : Prop := σ 11 3 = τ 18 1 ∧ σ 1 9 = τ 18 2 ∧ σ 1 10 = τ 18 3 ∧ σ 1 11 = τ 18 4 ∧ σ 1 12 = 0 ∧ τ 18 8 = 0
def zm_M (σ τ : xs_S) : Prop := σ 12 = τ 19 ∧ (∀ a, jr_R (σ 12 a) 255) ∧ σ 2 2 = τ 18 7
/-- what memory needs -/
def zl_L (σ τ : xs_S) : Prop := zg_G σ τ ∧ zm_M σ τ ∧ τ 18 9 = -1 ∧ σ 3 9 = τ 20 24 ∧ jr_R (σ 3 9) 31 ∧ σ 3 6 = τ 20 21
/-- what is raised -/
def zv_V (σ τ : xs_S) : Prop := ∃ v c : Nat, 10 ≤ v ∧ v ≤ 14 ∧ c < 65536 ∧ σ 2 0 = nI v ∧ σ 2 1 = nI c ∧ τ 18 9 = nI (65536 * v + c)
def zx_X (σ τ : xs_S) : Prop := zg_G σ τ ∧ zm_M σ τ ∧ zv_V σ τ
theorem zg_F {lc lr : List Nat} {σ σ' τ τ' : xs_S} (h : zg_G σ τ) (hF : zF lc lr σ σ' τ τ') (h1 : 1 ∉ lc) (h11 : 11 ∉ lc) : zg_G σ' τ' := by
  unfold zg_G
  rw [hF.1 1 h1, hF.1 11 h11, hF.2.2 1 (by decide) (by decide), hF.2.2 2 (by decide) (by decide), hF.2.2 3 (by decide) (by decide), hF.2.2 4 (by decide) (by decide), hF.2.2 8 (by decide) (by decide)]
  exact h
/-! Two results go together. -/
def zz_Z {α β : Type} (rc : xp_P α) (rr : β) (Φ : α → xs_S → β → Prop) (Ψ : xs_S → β → Prop) : Prop := (∀ a σ, rc = (some a, σ) → Φ a σ rr) ∧ (∀ σ, rc = (none, σ) → Ψ σ rr)
section ZZ
variable {α β γ δ : Type} {Φ : α → xs_S → β → Prop} {Ψ : xs_S → β → Prop} {rc : xp_P α} {rr : β}
theorem zz_s {a : α} {σ : xs_S} (h : Φ a σ rr) : zz_Z (some a, σ) rr Φ Ψ := ⟨fun _ _ e => (by cases e; exact h), fun _ e => (by cases e)⟩
theorem zz_f {σ : xs_S} (h : Ψ σ rr) : zz_Z (none, σ) rr Φ Ψ := ⟨fun _ _ e => (by cases e), fun _ e => (by cases e; exact h)⟩
theorem zz_lc {ε : Type} {x : ε} {f : ε → xp_P α} (k : ∀ y, y = x → zz_Z (f y) rr Φ Ψ) : zz_Z (xl_l x f) rr Φ Ψ := k x rfl
theorem zz_lr {ε : Type} {x : ε} {f : ε → β} (k : ∀ y, y = x → zz_Z rc (f y) Φ Ψ) : zz_Z rc (xl_l x f) Φ Ψ := k x rfl
theorem zz_b {rc1 : xp_P γ} {rr1 : δ} {f : γ → xs_S → xp_P α} {g : δ → β} {Φ1 : γ → xs_S → δ → Prop} {Ψ1 : xs_S → δ → Prop} (h : zz_Z rc1 rr1 Φ1 Ψ1) (k : ∀ a σ1 τ1, Φ1 a σ1 τ1 → zz_Z (f a σ1) (g τ1) Φ Ψ) (k2 : ∀ σ1 τ1, Ψ1 σ1 τ1 → Ψ σ1 (g τ1)) : zz_Z (xp_b rc1 f) (xl_l rr1 g) Φ Ψ := by
  obtain ⟨o, σ1⟩ := rc1
  cases o with
  | none => exact zz_f (k2 σ1 rr1 (h.2 σ1 rfl))
  | some a => exact k a σ1 rr1 (h.1 a σ1 rfl)
theorem zz_b' {rc1 : xp_P γ} {rr1 : β} {f : γ → xs_S → xp_P α} {Φ1 : γ → xs_S → β → Prop} {Ψ1 : xs_S → β → Prop} (h : zz_Z rc1 rr1 Φ1 Ψ1) (k : ∀ a σ1 τ1, Φ1 a σ1 τ1 → zz_Z (f a σ1) τ1 Φ Ψ) (k2 : ∀ σ1 τ1, Ψ1 σ1 τ1 → Ψ σ1 τ1) : zz_Z (xp_b rc1 f) rr1 Φ Ψ := zz_b (g := id) h k k2
theorem zz_m {Φ1 : α → xs_S → β → Prop} {Ψ1 : xs_S → β → Prop} (h : zz_Z rc rr Φ1 Ψ1) (k : ∀ a σ1, Φ1 a σ1 rr → Φ a σ1 rr) (k2 : ∀ σ1, Ψ1 σ1 rr → Ψ σ1 rr) : zz_Z rc rr Φ Ψ := ⟨fun a σ e => k a σ (h.1 a σ e), fun σ e => k2 σ (h.2 σ e)⟩
/-- a check that passes -/
theorem zz_p {x v c : Int32} {σ : xs_S} {f : Unit → xs_S → xp_P α} (hx : x = 0) (k : zz_Z (f () σ) rr Φ Ψ) : zz_Z (xp_b (fx_refuse x v c σ) f) rr Φ Ψ := by
  unfold fx_refuse
  rw [if_pos hx]
  exact k
/-- a check that fails -/
theorem zz_n {x v c : Int32} {σ : xs_S} {f : Unit → xs_S → xp_P α} (hx : ¬ x = 0) (k : Ψ (xu_u (xu_u σ 2 0 v) 2 1 c) rr) : zz_Z (xp_b (fx_refuse x v c σ) f) rr Φ Ψ := by
  unfold fx_refuse
  rw [if_neg hx]
  exact zz_f k
end ZZ
theorem zi_n {τ : xs_S} (h : τ 18 9 = -1) : fy_isRaised τ = 0 := by
  unfold fy_isRaised
  rw [h]
  decide
theorem zi_v {σ τ : xs_S} (h : zv_V σ τ) : ¬ τ 18 9 < 0 := by
  obtain ⟨v, c, h1, h2, h3, _, _, h6⟩ := h
  rw [h6]
  exact nI_pos (by omega)
theorem zi_r {τ : xs_S} (h : ¬ τ 18 9 < 0) : fy_isRaised τ = 1 := by
  unfold fy_isRaised
  rw [if_neg h]
/-- both raise -/
theorem zx_r {σ τ : xs_S} {v c : Nat} {v' c' : Int32} (hG : zg_G σ τ) (hM : zm_M σ τ) (hr : τ 18 9 = -1) (hv1 : 10 ≤ v) (hv2 : v ≤ 14) (hc : c < 65536) (ev : v' = nI v) (ec : c' = nI c) : zx_X (xu_u (xu_u σ 2 0 v') 2 1 c') (fy_raise v' c' τ) ∧ zF [2, 12] [18, 19] σ (xu_u (xu_u σ 2 0 v') 2 1 c') τ (fy_raise v' c' τ) := by
  subst ev ec
  have e : fy_raise (nI v) (nI c) τ = xu_u τ 18 9 (nI (65536 * v + c)) := by
    unfold fy_raise
    rw [hr, if_neg (by decide)]
    unfold xl_l
    rw [show (65536 : Int32) = nI 65536 by decide, pk_mul, nI_add]
  have hF : zF [2, 12] [18, 19] σ (xu_u (xu_u σ 2 0 (nI v)) 2 1 (nI c)) τ (fy_raise (nI v) (nI c) τ) := by
    rw [e]
    exact ⟨zf_u (zf_u zf_r (by decide)) (by decide), zf_u zf_r (by decide), zk_9 zk_r⟩
  refine ⟨⟨zg_F hG hF (by decide) (by decide), ?_, ?_⟩, hF⟩
  · rw [e]
    exact hM
  · rw [e]
    exact ⟨v, c, hv1, hv2, hc, rfl, rfl, rfl⟩
