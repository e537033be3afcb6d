/-! What the walks keep: small ranges that the places of arrays need. -/
def jr_R (x : Int32) (m : Int) : Prop := 0 ≤ x.toInt ∧ x.toInt ≤ m
def jx_J (σ : xs_S) : Prop := jr_R (σ 3 9) 31 ∧ jr_R (σ 7 9) 31 ∧ jr_R (σ 13 5) 7
def yx_J (σ : xs_S) : Prop := jr_R (σ 20 24) 31 ∧ jr_R (σ 21 24) 31 ∧ jr_R (σ 27 0) 7
theorem xu_same {σ : xs_S} {i k : Nat} {v : Int32} : xu_u σ i k v i k = v := by simp [xu_u]
theorem xu_off {σ : xs_S} {i k a b : Nat} {v : Int32} (h : ¬ (a = i ∧ b = k)) : xu_u σ i k v a b = σ a b := by
  unfold xu_u
  by_cases h1 : a = i
  · rw [if_pos h1]
    by_cases h2 : b = k
    · exact absurd ⟨h1, h2⟩ h
    · rw [if_neg h2]
  · rw [if_neg h1]
theorem jx_u {σ : xs_S} {i k : Nat} {v : Int32} (h : jx_J σ) (hn : ¬ (3 = i ∧ 9 = k) ∧ ¬ (7 = i ∧ 9 = k) ∧ ¬ (13 = i ∧ 5 = k)) : jx_J (xu_u σ i k v) := by
  unfold jx_J
  rw [xu_off hn.1, xu_off hn.2.1, xu_off hn.2.2]
  exact h
theorem jx_c {σ : xs_S} {i k : Nat} {v : Int32} (h : jx_J σ) (hn : 3 ≠ i ∧ 7 ≠ i ∧ 13 ≠ i) : jx_J (xu_u σ i k v) := jx_u h ⟨fun z => hn.1 z.1, fun z => hn.2.1 z.1, fun z => hn.2.2 z.1⟩
theorem yx_u {σ : xs_S} {i k : Nat} {v : Int32} (h : yx_J σ) (hn : ¬ (20 = i ∧ 24 = k) ∧ ¬ (21 = i ∧ 24 = k) ∧ ¬ (27 = i ∧ 0 = k)) : yx_J (xu_u σ i k v) := by
  unfold yx_J
  rw [xu_off hn.1, xu_off hn.2.1, xu_off hn.2.2]
  exact h
theorem yx_c {σ : xs_S} {i k : Nat} {v : Int32} (h : yx_J σ) (hn : 20 ≠ i ∧ 21 ≠ i ∧ 27 ≠ i) : yx_J (xu_u σ i k v) := yx_u h ⟨fun z => hn.1 z.1, fun z => hn.2.1 z.1, fun z => hn.2.2 z.1⟩
theorem jr_and {x m : Int32} {k : Nat} {b : Int} (hm : m.toBitVec.toNat = 2 ^ k - 1) (hk : k ≤ 30) (hb : (2 : Int) ^ k ≤ b + 1) : jr_R (x &&& m) b := by
  obtain ⟨j, hj, e⟩ := pk_andE x k hm
  have h1 : 2 ^ k ≤ 2 ^ 30 := Nat.pow_le_pow_right (by decide) hk
  have h3 : ((2 ^ k : Nat) : Int) = (2 : Int) ^ k := by simp
  rw [e]
  unfold jr_R
  rw [nI_toInt (by omega)]
  omega
theorem jx_p {σ : xs_S} {x : Int32} (h : jx_J σ) : jx_J (xu_u σ 3 9 (x &&& 31)) := by
  obtain ⟨a, b, c⟩ := h
  unfold jx_J
  rw [xu_same, xu_off (by decide), xu_off (by decide)]
  exact ⟨jr_and (k := 5) (by decide) (by decide) (by decide), b, c⟩
theorem jx_37 {σ : xs_S} (h : jx_J σ) : jx_J (xu_u σ 3 9 (σ 7 9)) := by
  obtain ⟨a, b, c⟩ := h
  unfold jx_J
  rw [xu_same, xu_off (by decide), xu_off (by decide)]
  exact ⟨b, b, c⟩
theorem jx_73 {σ : xs_S} (h : jx_J σ) : jx_J (xu_u σ 7 9 (σ 3 9)) := by
  obtain ⟨a, b, c⟩ := h
  unfold jx_J
  rw [xu_same, xu_off (by decide), xu_off (by decide)]
  exact ⟨a, a, c⟩
theorem jx_d {σ : xs_S} {c k : Nat} {v : Int32} (h : jx_J σ) (h9 : 9 ≠ k) (h5 : 5 ≠ k) : jx_J (xu_u σ c k v) := jx_u h ⟨fun z => h9 z.2, fun z => h9 z.2, fun z => h5 z.2⟩
theorem jx_w {σ : xs_S} {c : Nat} {x : Int32} (h : jx_J σ) : jx_J (xu_u σ c 5 (x &&& 7)) := by
  by_cases hc : 13 = c
  · subst hc
    obtain ⟨a, b, c⟩ := h
    unfold jx_J
    rw [xu_same, xu_off (by decide), xu_off (by decide)]
    exact ⟨a, b, jr_and (k := 3) (by decide) (by decide) (by decide)⟩
  · exact jx_u h ⟨by simp, by simp, fun z => hc z.1⟩
theorem jy_k1 {σ : xs_S} (h : yx_J σ) : yx_J (xu_u σ 21 24 (σ 20 24)) := by
  obtain ⟨a, b, c⟩ := h
  unfold yx_J
  rw [xu_same, xu_off (by decide), xu_off (by decide)]
  exact ⟨a, a, c⟩
theorem jy_k2 {σ : xs_S} (h : yx_J σ) : yx_J (xu_u σ 20 24 (σ 21 24)) := by
  obtain ⟨a, b, c⟩ := h
  unfold yx_J
  rw [xu_same, xu_off (by decide), xu_off (by decide)]
  exact ⟨b, b, c⟩
theorem yx_p {σ : xs_S} {x : Int32} (h : yx_J σ) : yx_J (xu_u σ 20 24 (x &&& 31)) := by
  obtain ⟨a, b, c⟩ := h
  unfold yx_J
  rw [xu_same, xu_off (by decide), xu_off (by decide)]
  exact ⟨jr_and (k := 5) (by decide) (by decide) (by decide), b, c⟩
theorem yx_n {σ : xs_S} {j : Nat} {x : Int32} (h : yx_J σ) : yx_J (xu_u σ 27 j (x &&& 7)) := by
  by_cases hc : 0 = j
  · subst hc
    obtain ⟨a, b, c⟩ := h
    unfold yx_J
    rw [xu_same, xu_off (by decide), xu_off (by decide)]
    exact ⟨a, b, jr_and (k := 3) (by decide) (by decide) (by decide)⟩
  · exact yx_u h ⟨by simp, by simp, fun z => hc z.2⟩
theorem yx_r {σ : xs_S} {j : Nat} {x : Int32} (h : yx_J σ) (hj : j < 24) : yx_J (xu_u σ 20 j x) := yx_u h ⟨fun z => by omega, fun z => by simp at z, fun z => by simp at z⟩
section XJ
variable {P : xs_S → Prop}
theorem xj_l {α β : Type} {x : α} {f : α → β × xs_S} (k : ∀ y, y = x → P (f y).2) : P (xl_l x f).2 := k x rfl
theorem xj_wl {α : Type} {x : α} {f : α → xs_S} (k : ∀ y, y = x → P (f y)) : P (xl_l x f) := k x rfl
theorem xj_f {β : Type} {c : Prop} [Decidable c] {A B : β × xs_S} (ht : c → P A.2) (hf : ¬ c → P B.2) : P (if c then A else B).2 := by
  by_cases h : c
  · rw [if_pos h]; exact ht h
  · rw [if_neg h]; exact hf h
theorem xj_wf {c : Prop} [Decidable c] {A B : xs_S} (ht : c → P A) (hf : ¬ c → P B) : P (if c then A else B) := by
  by_cases h : c
  · rw [if_pos h]; exact ht h
  · rw [if_neg h]; exact hf h
theorem xj_i {c : Prop} [Decidable c] {A B : xs_S} (ht : c → P A) (hf : ¬ c → P B) : P (if c then A else B) := xj_wf ht hf
theorem xj_b {α β : Type} {r : xp_P α} {f : α → xs_S → xp_P β} (h : P r.2) (k : ∀ a σ1, r = (some a, σ1) → P σ1 → P (f a σ1).2) : P (xp_b r f).2 := by
  obtain ⟨o, σ1⟩ := r
  cases o with
  | none => exact h
  | some a => exact k a σ1 rfl h
theorem xj_o {α : Type} {r : xp_P α} {o : Option α} {σ1 : xs_S} (h : P r.2) (hF : r = (o, σ1)) : P σ1 := by rw [hF] at h; exact h
end XJ
theorem vi_b {x : Int32} (h0 : ¬ x < 0) (h : ¬ (2048 : Int32) ≤ x) : vp_in x 2048 := by
  obtain ⟨j, hj, rfl⟩ := nI_of h0
  have h2 : ¬ nI 2048 ≤ nI j := h
  rw [nI_leI (by decide) hj] at h2
  exact vp_in_nI (by omega) (by decide)
section XLP
variable {κ : Nat → Nat × Nat} {l : Launch} {M : xw_M} {pc : Nat} {L : List (Option Value)} {S : List Value}
/-- an answer and a world get a name together -/
theorem xw_lpi {n u : Nat} {x : Int32 × xs_S} {ρ : xs_R} {β : Type} {φ : β → xw_O × xw_W} {f : Int32 × xs_S → β} (k : ∀ y, y = x → xw_w κ l M pc L (.int y.1 :: S) (n, u, y.2, ρ) (φ (f y))) : xw_w κ l M pc L (.int x.1 :: S) (n, u, x.2, ρ) (φ (xl_l x f)) := k x rfl
/-- two roads -/
theorem xw_sp {c : Prop} [Decidable c] {w : xw_W} {β : Type} {φ : β → xw_O × xw_W} {A B : β} (kt : c → xw_w κ l M pc L S w (φ A)) (kf : ¬ c → xw_w κ l M pc L S w (φ B)) : xw_w κ l M pc L S w (φ (if c then A else B)) := by
  by_cases h : c
  · rw [if_pos h]; exact kt h
  · rw [if_neg h]; exact kf h
theorem xw_tsI {x k : Int32} {w : xw_W} {E : xw_O × xw_W} {dflt lo hi off : Int} {offs : Array Int} {len pc' tgt : Nat} (h : xw_dec M.2.1 pc (.tableswitch dflt lo hi offs) len pc') (hx : x = k) (h1 : ¬ k.toInt < lo) (h2 : ¬ hi < k.toInt) (ho : offs[(k.toInt - lo).toNat]? = some off) (ht : (pc : Int) + off = (tgt : Int)) (kk : xw_w κ l M tgt L S w E) : xw_w κ l M pc L (.int x :: S) w E := by
  obtain ⟨hdg, rfl⟩ := h
  subst hx
  exact xw_s kk fun G p e R s m args below meth c H locs cells slots ls Q hS hR hL kw => lv_tableIn hS.1 hS.2.1 hdg h1 h2 ho ht kw
theorem xw_tsO {x : Int32} {w : xw_W} {E : xw_O × xw_W} {dflt lo hi : Int} {offs : Array Int} {len pc' tgt : Nat} (h : xw_dec M.2.1 pc (.tableswitch dflt lo hi offs) len pc') (hx : x.toInt < lo ∨ hi < x.toInt) (ht : (pc : Int) + dflt = (tgt : Int)) (kk : xw_w κ l M tgt L S w E) : xw_w κ l M pc L (.int x :: S) w E := by
  obtain ⟨hdg, rfl⟩ := h
  exact xw_s kk fun G p e R s m args below meth c H locs cells slots ls Q hS hR hL kw => lv_tableOut hS.1 hS.2.1 hdg hx ht kw
theorem xw_lsw {x : Int32} {w : xw_W} {E : xw_O × xw_W} {dflt off : Int} {ps : Array (Int × Int)} {len pc' tgt : Nat} (h : xw_dec M.2.1 pc (.lookupswitch dflt ps) len pc') (hp : (ps.toList.zip (ps.toList.drop 1)).all (fun (a, next) => a.1 < next.1) = true) (ho : Op.lookupswitch.offset ps.toList dflt x.toInt = off) (ht : (pc : Int) + off = (tgt : Int)) (kk : xw_w κ l M tgt L S w E) : xw_w κ l M pc L (.int x :: S) w E := by
  obtain ⟨hdg, rfl⟩ := h
  exact xw_s kk fun G p e R s m args below meth c H locs cells slots ls Q hS hR hL kw => lv_lookup hS.1 hS.2.1 hdg hp ho ht kw
end XLP
