theorem xw_isubc {κ : Nat → Nat × Nat} {l : Launch} {M : xw_M} {pc pc' : Nat} {L : List (Option Value)} {S : List Value} {w : xw_W} {E : xw_O × xw_W} {x y z : Int32} (h : xw_dec M.2.1 pc .isub 1 pc') (hv : x - y = z) (k : xw_w κ l M pc' L (.int z :: S) w E) : xw_w κ l M pc L (.int y :: .int x :: S) w E := by
  subst hv
  exact xw_isub h k
theorem jr_0 : jr_R (0 : Int32) 7 := ⟨by decide, by decide⟩
theorem jr_7 {a : Int32} (h : jr_R a 7) (h0 : ¬ a = 0) (h1 : ¬ a = 1) (h2 : ¬ a = 2) (h3 : ¬ a = 3) (h4 : ¬ a = 4) (h5 : ¬ a = 5) (h6 : ¬ a = 6) : a = 7 := by
  obtain ⟨j, hj, rfl⟩ := jr_nat (m := 7) (by decide) h
  have k0 : j ≠ 0 := fun z => h0 (by rw [z]; decide)
  have k1 : j ≠ 1 := fun z => h1 (by rw [z]; decide)
  have k2 : j ≠ 2 := fun z => h2 (by rw [z]; decide)
  have k3 : j ≠ 3 := fun z => h3 (by rw [z]; decide)
  have k4 : j ≠ 4 := fun z => h4 (by rw [z]; decide)
  have k5 : j ≠ 5 := fun z => h5 (by rw [z]; decide)
  have k6 : j ≠ 6 := fun z => h6 (by rw [z]; decide)
  have : j = 7 := by omega
  rw [this]
  decide
