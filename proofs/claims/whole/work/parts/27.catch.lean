/-! Methods that catch: how they end, how many exceptions they made. -/
def xe_c (n u : Nat) (r : Int32 × xs_S × Nat) : xw_O × xw_W := (.inl (some (.int r.1)), (n + r.2.2, u + 6 * r.2.2, r.2.1, xr_0))
def xc_m {α β : Type} (r : xp_P α) (f : α → xs_S → β) (g : xs_S → β) : β := match r with
  | (some a, σ) => f a σ
  | (none, σ) => g σ
theorem xc_e {n u : Nat} {r : Int32 × xs_S × Nat} : xe_c n u (xl_l r (fun r => (r.1, r.2.1, r.2.2 + 1))) = xe_c (n + 1) (u + 6) r := by
  show (_, (n + (r.2.2 + 1), u + 6 * (r.2.2 + 1), _, _)) = (_, (n + 1 + r.2.2, u + 6 + 6 * r.2.2, _, _))
  rw [show n + (r.2.2 + 1) = n + 1 + r.2.2 by omega, show u + 6 * (r.2.2 + 1) = u + 6 + 6 * r.2.2 by omega]
  rfl
section XG
variable {κ : Nat → Nat × Nat} {l : Launch} {M M' : xw_M} {pc pc' n u len : Nat} {L : List (Option Value)} {S rest As : List Value} {σ : xs_S} {ig : Instr}
theorem xw_cC' {α β : Type} {en : α → Option Value} {φ : β → xw_O × xw_W} {Fc : xp_P α} {f : α → xs_S → β} {g : xs_S → β} {p0 p1 hp ct : Nat} (h : xw_dec M.2.1 pc ig len pc') (hlk : xw_lk κ l M M' pc (n, u, σ, xr_0) S rest As) (hok : xw_ok M') (hM : xm_m κ l M' As (n, u, σ, xr_0) (xe_t en n u Fc)) (hroom : xw_rm M M' rest)
    (hh : M.2.2.2.2.1 = [(p0, p1, hp, ct)]) (hcov : p0 ≤ pc ∧ pc < p1) (hct : ct ≠ 0) (hlink : Cond.classLink M.1.cls ct "java/lang/IllegalStateException" ∈ xw_T) (hcast : Cond.castable "java/lang/IllegalStateException" "java/lang/IllegalStateException" ∈ xw_T) (hκ : 4 ≤ (κ n).1)
    (k : ∀ a σ1, Fc = (some a, σ1) → xw_w κ l M pc' L ((en a).toList ++ rest) (n, u, σ1, xr_0) (φ (f a σ1))) (k2 : ∀ σ1, Fc = (none, σ1) → xw_w κ l M hp L [.ref n] (n + 1, u + 6, σ1, xr_0) (φ (g σ1))) : xw_w κ l M pc L S (n, u, σ, xr_0) (φ (xc_m Fc f g)) :=
  xw_cC h hlk hok hM hroom hh hcov hct hlink hcast hκ (fun a σ1 e => by rw [e]; exact k a σ1 e) (fun σ1 e => by rw [e]; exact k2 σ1 e)
end XG
section XK
variable {P : xs_S → Prop} {β γ : Type}
theorem xk_l {α : Type} {x : α} {f : α → β × xs_S × γ} (k : ∀ y, y = x → P (f y).2.1) : P (xl_l x f).2.1 := k x rfl
theorem xk_f {c : Prop} [Decidable c] {A B : β × xs_S × γ} (ht : c → P A.2.1) (hf : ¬ c → P B.2.1) : P (if c then A else B).2.1 := by
  by_cases h : c
  · rw [if_pos h]; exact ht h
  · rw [if_neg h]; exact hf h
theorem xk_m {α : Type} {r : xp_P α} {f : α → xs_S → β × xs_S × γ} {g : xs_S → β × xs_S × γ} (h : P r.2) (k : ∀ a σ1, r = (some a, σ1) → P σ1 → P (f a σ1).2.1) (k2 : ∀ σ1, r = (none, σ1) → P σ1 → P (g σ1).2.1) : P (xc_m r f g).2.1 := by
  obtain ⟨o, σ1⟩ := r
  cases o with
  | none => exact k2 σ1 rfl h
  | some a => exact k a σ1 rfl h
end XK
theorem xw_astore6 {κ : Nat → Nat × Nat} {l : Launch} {M : xw_M} {pc pc' : Nat} {S : List Value} {w : xw_W} {E : xw_O × xw_W} {x : Nat} {o0 o1 o2 o3 o4 o5 : Option Value} {d : Option Value} {t : List (Option Value)} (h : xw_dec M.2.1 pc (.astore 6) 2 pc') (hn : 6 < M.2.2.1) (ho : xo_b o5 = true) (k : xw_w κ l M pc' (o0 :: o1 :: o2 :: o3 :: o4 :: o5 :: some (.ref x) :: t) S w E) : xw_w κ l M pc (o0 :: o1 :: o2 :: o3 :: o4 :: o5 :: d :: t) (.ref x :: S) w E :=
  xw_astoreG (i := 6) h (Or.inr ⟨rfl, rfl⟩) hn (by simp) (fun j u hj hu => xo_1 ho u (by
    have e : j = 5 := by omega
    subst e
    simpa using hu)) k
