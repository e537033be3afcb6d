/-! Both machines in one world. -/
def lI (s : xs_S) : Prop := zN s s ∧ jx_J s ∧ yx_J s
def ld (s : xs_S) : Nat := if s 1 12 = 0 then 0 else 1
theorem ld_1 (s : xs_S) : ld s ≤ 1 := by
  unfold ld
  by_cases c : s 1 12 = 0
  · rw [if_pos c]; exact Nat.zero_le 1
  · rw [if_neg c]; exact Nat.le_refl 1
section LC
variable {σ τ σ' τ' s : xs_S}
theorem zN_r (h : zN σ τ) (e18 : τ' 18 = τ 18) (e19 : τ' 19 = τ 19) (e20 : τ' 20 = τ 20) : zN σ τ' := by
  unfold zN zm_M
  rw [e18, e19, e20]
  exact h
theorem zN_l (h : zN σ τ) (e : ∀ i, i < 18 → σ' i = σ i) : zN σ' τ := by
  unfold zN zm_M
  rw [e 1 (by decide), e 2 (by decide), e 3 (by decide), e 4 (by decide), e 5 (by decide), e 6 (by decide), e 11 (by decide), e 12 (by decide)]
  exact h
theorem jx_l (h : jx_J σ) (e : ∀ i, i < 18 → σ' i = σ i) : jx_J σ' := by
  unfold jx_J
  rw [e 3 (by decide), e 7 (by decide), e 13 (by decide)]
  exact h
theorem yx_Rr (h : yx_J τ) (e20 : τ' 20 = τ 20) (e21 : τ' 21 = τ 21) (e27 : τ' 27 = τ 27) : yx_J τ' := by
  unfold yx_J
  rw [e20, e21, e27]
  exact h
theorem zY_lt {i : Nat} (h : i < 18) : i ∉ zl_Y := by
  unfold zl_Y
  intro q
  simp only [List.mem_cons, List.not_mem_nil, or_false] at q
  omega
theorem lc_c (F : xs_S → Int32 × xs_S × Nat) (Y : xs_S → Int32 × xs_S) (hs : ∀ σ τ, zN σ τ → zP 2 σ τ (F σ) (Y τ)) (hd : ∀ σ, ¬ σ 1 12 = 0 → (F σ).2.2 = 0) (hJ : ∀ σ, jx_J σ → jx_J (F σ).2.1) (hY : ∀ σ, yx_J σ → yx_J (Y σ).2) (h : lI s) : (F s).1 = (Y (F s).2.1).1 ∧ (F s).2.1 0 = s 0 ∧ yx_J (F s).2.1 ∧ lI (Y (F s).2.1).2 ∧ (Y (F s).2.1).2 0 = s 0 ∧ (F s).2.2 + ld s ≤ 2 + ld (Y (F s).2.1).2 := by
  obtain ⟨h1, h2, h3⟩ := h
  have A := hs s s h1
  have j1 := hJ s h2
  have d1 := hd s
  have F1 : zf_F zl_C s (F s).2.1 := A.2.2.1.1
  have cn := A.2.2.2
  clear A
  have B := hs s (F s).2.1 (zN_r h1 (F1 18 (by decide)) (F1 19 (by decide)) (F1 20 (by decide)))
  have y1 : yx_J (F s).2.1 := yx_Rr h3 (F1 20 (by decide)) (F1 21 (by decide)) (F1 27 (by decide))
  have y2 := hY _ y1
  have e1 := B.1
  have z1 := B.2.1
  have F2 : zf_F zl_Y (F s).2.1 (Y (F s).2.1).2 := B.2.2.1.2
  clear B
  have q0 : (F s).2.1 0 = s 0 := F1 0 (by decide)
  generalize F s = r at *
  generalize Y r.2.1 = t at *
  have rows : ∀ i, i < 18 → t.2 i = r.2.1 i := fun i hi => F2 i (zY_lt hi)
  refine ⟨e1, q0, y1, ⟨zN_l z1 rows, jx_l j1 rows, y2⟩, (rows 0 (by decide)).trans q0, ?_⟩
  by_cases c : s 1 12 = 0
  · have l0 : ld s = 0 := if_pos c
    rw [l0]
    rcases cn with cn | ⟨cn, dn⟩
    · omega
    · have l1 : ld t.2 = 1 := by
        unfold ld
        rw [rows 1 (by decide), if_neg dn]
      rw [l1]
      omega
  · rw [d1 c]
    have := ld_1 s
    omega
theorem lc_o (F Y : xs_S → Int32 × xs_S) (hs : ∀ σ τ, zN σ τ → zO σ τ (F σ) (Y τ)) (hJ : ∀ σ, jx_J σ → jx_J (F σ).2) (hY : ∀ σ, yx_J σ → yx_J (Y σ).2) (h : lI s) : (F s).1 = (Y (F s).2).1 ∧ (F s).2 0 = s 0 ∧ yx_J (F s).2 ∧ lI (Y (F s).2).2 ∧ (Y (F s).2).2 0 = s 0 := by
  obtain ⟨h1, h2, h3⟩ := h
  have A := hs s s h1
  have j1 := hJ s h2
  have F1 : zf_F zl_C s (F s).2 := A.2.2.1
  clear A
  have B := hs s (F s).2 (zN_r h1 (F1 18 (by decide)) (F1 19 (by decide)) (F1 20 (by decide)))
  have y1 : yx_J (F s).2 := yx_Rr h3 (F1 20 (by decide)) (F1 21 (by decide)) (F1 27 (by decide))
  have y2 := hY _ y1
  have e1 := B.1
  have z1 := B.2.1
  have F2 : zf_F zl_Y (F s).2 (Y (F s).2).2 := B.2.2.2
  clear B
  have q0 : (F s).2 0 = s 0 := F1 0 (by decide)
  generalize F s = r at *
  generalize Y r.2 = t at *
  have rows : ∀ i, i < 18 → t.2 i = r.2 i := fun i hi => F2 i (zY_lt hi)
  exact ⟨e1, q0, y1, ⟨zN_l z1 rows, jx_l j1 rows, y2⟩, (rows 0 (by decide)).trans q0⟩
end LC
section DN
variable {a1 a2 a3 : Int32} {σ : xs_S}
theorem dn_load (h : ¬ σ 1 12 = 0) : (fr_load a1 a2 σ).2.2 = 0 := by
  unfold fr_load
  rw [if_neg h]
theorem dn_read (h : ¬ σ 1 12 = 0) : (fr_read a1 a2 σ).2.2 = 0 := by
  unfold fr_read
  rw [if_neg h]
theorem dn_write (h : ¬ σ 1 12 = 0) : (fr_write a1 a2 a3 σ).2.2 = 0 := by
  unfold fr_write
  rw [if_neg h]
theorem dn_push (h : ¬ σ 1 12 = 0) : (fr_push a1 σ).2.2 = 0 := by
  unfold fr_push
  rw [if_neg h]
theorem dn_pop (h : ¬ σ 1 12 = 0) : (fr_pop σ).2.2 = 0 := by
  unfold fr_pop
  rw [if_neg h]
theorem dn_far (h : ¬ σ 1 12 = 0) : (fr_far a1 a2 a3 σ).2.2 = 0 := by
  unfold fr_far
  rw [if_neg h]
theorem dn_back (h : ¬ σ 1 12 = 0) : (fr_back σ).2.2 = 0 := by
  unfold fr_back
  rw [if_neg h]
theorem dn_trap (h : ¬ σ 1 12 = 0) : (fr_trap a1 σ).2.2 = 0 := by
  unfold fr_trap
  rw [if_neg h]
theorem dn_end (h : ¬ σ 1 12 = 0) : (fr_end σ).2.2 = 0 := by
  unfold fr_end
  rw [if_neg h]
end DN
