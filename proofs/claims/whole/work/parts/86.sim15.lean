/-! A task is switched: what it is to take. -/
def zT (σ τ : xs_S) : Prop := zl_L σ τ ∧ zr_R (σ 3) (σ 4) (σ 5) (σ 6) (τ 20) ∧ (σ 3 5 = τ 20 20 ∧ jr_R (σ 3 5) 3) ∧ (τ 18 10 = 1 ∧ τ 18 11 = 1)
def zU (σ τ : xs_S) : Prop := zx_X σ τ ∧ τ 18 10 = 1 ∧ zb_B (σ 7) (σ 8) (σ 9) (σ 10) (τ 20)
section ZN
variable {σ σ' τ τ' : xs_S} {lc lr : List Nat}
theorem zT_n (h : zT σ τ) : fy_isRaised τ = 0 := zi_n h.1.2.2.1
theorem zU_n (h : zU σ τ) : ¬ fy_isRaised τ = 0 := by
  rw [zi_r (zi_v h.1.2.2)]
  decide
theorem zT_F (h : zT σ τ) (hL : zl_L σ' τ') (hF : zF lc lr σ σ' τ τ') (h1 : ∀ i ∈ [3, 4, 5, 6], i ∉ lc) (h2 : 20 ∉ lr) : zT σ' τ' := by
  refine ⟨hL, ?_⟩
  rw [hF.1 3 (h1 3 (by decide)), hF.1 4 (h1 4 (by decide)), hF.1 5 (h1 5 (by decide)), hF.1 6 (h1 6 (by decide)), hF.2.1 20 h2, hF.2.2 10 (by decide) (by decide), hF.2.2 11 (by decide) (by decide)]
  exact h.2
theorem zU_F (h : τ 18 10 = 1) (hB : zb_B (σ 7) (σ 8) (σ 9) (σ 10) (τ 20)) (hX : zx_X σ' τ') (hF : zF lc lr σ σ' τ τ') (h1 : ∀ i ∈ [7, 8, 9, 10], i ∉ lc) (h3 : 20 ∉ lr) : zU σ' τ' := by
  refine ⟨hX, ?_⟩
  rw [hF.1 7 (h1 7 (by decide)), hF.1 8 (h1 8 (by decide)), hF.1 9 (h1 9 (by decide)), hF.1 10 (h1 10 (by decide)), hF.2.1 20 h3, hF.2.2 10 (by decide) (by decide)]
  exact ⟨h, hB⟩
theorem zT_clr {s : Int32} {d k : Nat} (hI : zI s d k) (h : zT σ τ) : zT (fd_clear d σ) (fy_setNull s 0 τ) := by
  rw [sn_e hI]
  obtain ⟨z0, z1, z2, z3, z4⟩ := cl_0 d σ
  have j0 : jr_R (fd_clear d σ d 0) 65535 := by
    rw [z0]
    exact bt_j (n := 0) (m := 65535) (by decide) (by decide)
  have k0 : fd_clear d σ d 0 < 4 := by
    rw [z0]
    decide
  obtain ⟨q1, ⟨a0, a1, a2, a3, a4⟩, q3⟩ := h
  rcases hI with ⟨rfl, rfl, rfl⟩ | ⟨rfl, rfl, rfl⟩ | ⟨rfl, rfl, rfl⟩
  · exact ⟨q1, ⟨⟨z0, j0, Or.inl ⟨rfl, k0, z1, z2, z3, z4⟩⟩, a1, a2, a3, a4⟩, q3⟩
  · exact ⟨q1, ⟨a0, ⟨z0, j0, Or.inl ⟨rfl, k0, z1, z2, z3, z4⟩⟩, a2, fun q => absurd (show (1 : Int32) = 0 from q) (by decide), a4⟩, q3⟩
  · exact ⟨q1, ⟨a0, a1, ⟨z0, j0, Or.inl ⟨rfl, k0, z1, z2, z3, z4⟩⟩, a3, a4⟩, q3⟩
theorem zT_set {s sel kk : Int32} {d k c : Nat} (hI : zI s d k) (hc : c = 13 ∨ c = 14 ∨ c = 15) (h : zT σ τ) (hD : zd_D (σ c) τ kk.toNatClampNeg sel) (hs : jr_R sel 65535) (hn : ¬ sel < 4) (h4 : s = 1 → σ c 3 = 4) : zT (fd_copy d c σ) (fy_setSegment s sel kk τ) := by
  refine ⟨?_, zr_set hI hc h.2.1 hD hs hn h4, ?_⟩
  · rw [ss_e hI]
    rcases hI with ⟨rfl, rfl, rfl⟩ | ⟨rfl, rfl, rfl⟩ | ⟨rfl, rfl, rfl⟩ <;> exact h.1
  · rw [ss_e hI]
    rcases hI with ⟨rfl, rfl, rfl⟩ | ⟨rfl, rfl, rfl⟩ | ⟨rfl, rfl, rfl⟩ <;> exact h.2.2
theorem cp_F {l : List Nat} {σ0 : xs_S} (h : zf_F l σ0 σ) (h7 : 7 ∈ l) (h8 : 8 ∈ l) (h9 : 9 ∈ l) (h10 : 10 ∈ l) : zf_F l σ0 (fg_copy_7_3 σ) := zf_u (zf_u (zf_u (zf_u (zf_u (zf_u (zf_u (zf_u (fc_F (fc_F (fc_F h h8) h9) h10) h7) h7) h7) h7) h7) h7) h7) h7
theorem cp_s {d e q : Nat → Int32} {s : Nat} (h : zs_S d q s) (h0 : e 0 = d 0) (h1 : e 1 = d 1) (h2 : e 2 = d 2) (h3 : e 3 = d 3) (h4 : e 4 = d 4) : zs_S e q s := by
  unfold zs_S
  rw [h0, h1, h2, h3, h4]
  exact h
theorem cp_r {c d0 d1 d2 c' e0 e1 e2 q : Nat → Int32} (h : zb_B c d0 d1 d2 q) (hc : c' 3 = c 3 ∧ c' 4 = c 4 ∧ c' 5 = c 5 ∧ c' 6 = c 6 ∧ c' 7 = c 7 ∧ c' 8 = c 8 ∧ c' 9 = c 9 ∧ c' 10 = c 10) (h0 : e0 0 = d0 0 ∧ e0 1 = d0 1 ∧ e0 2 = d0 2 ∧ e0 3 = d0 3 ∧ e0 4 = d0 4) (h1 : e1 0 = d1 0 ∧ e1 1 = d1 1 ∧ e1 2 = d1 2 ∧ e1 3 = d1 3 ∧ e1 4 = d1 4) (h2 : e2 0 = d2 0 ∧ e2 1 = d2 1 ∧ e2 2 = d2 2 ∧ e2 3 = d2 3 ∧ e2 4 = d2 4) : zb_B c' e0 e1 e2 q := by
  obtain ⟨⟨a0, a1, a2, a3, a4, a5, a6, a7, a8, a9, a10⟩, b⟩ := h
  refine ⟨⟨cp_s a0 h0.1 h0.2.1 h0.2.2.1 h0.2.2.2.1 h0.2.2.2.2, cp_s a1 h1.1 h1.2.1 h1.2.2.1 h1.2.2.2.1 h1.2.2.2.2, cp_s a2 h2.1 h2.2.1 h2.2.2.1 h2.2.2.2.1 h2.2.2.2.2, ?_⟩, ?_⟩
  · rw [h1.2.2.2.1, hc.1, hc.2.1, hc.2.2.2.1, hc.2.2.2.2.1, hc.2.2.2.2.2.1, hc.2.2.2.2.2.2.1, hc.2.2.2.2.2.2.2]
    exact ⟨a3, a4, a5, a6, a7, a8, a9, a10⟩
  · rw [hc.2.2.1]
    exact b
theorem cp_73 {q : Nat → Int32} (h : zb_B (σ 3) (σ 4) (σ 5) (σ 6) q) : zb_B (fg_copy_7_3 σ 7) (fg_copy_7_3 σ 8) (fg_copy_7_3 σ 9) (fg_copy_7_3 σ 10) q := by
  refine cp_r h ?_ ?_ ?_ ?_
  · simp [fg_copy_7_3, fd_copy, xl_l, xu_u]
  · simp [fg_copy_7_3, fd_copy, xl_l, xu_u]
  · simp [fg_copy_7_3, fd_copy, xl_l, xu_u]
  · simp [fg_copy_7_3, fd_copy, xl_l, xu_u]
theorem cp_37 {q : Nat → Int32} (h : zb_B (σ 7) (σ 8) (σ 9) (σ 10) q) : zb_B (fg_copy_3_7 σ 3) (fg_copy_3_7 σ 4) (fg_copy_3_7 σ 5) (fg_copy_3_7 σ 6) q := by
  refine cp_r h ?_ ?_ ?_ ?_
  · simp [fg_copy_3_7, fd_copy, xl_l, xu_u]
  · simp [fg_copy_3_7, fd_copy, xl_l, xu_u]
  · simp [fg_copy_3_7, fd_copy, xl_l, xu_u]
  · simp [fg_copy_3_7, fd_copy, xl_l, xu_u]
theorem cq_F {l : List Nat} {σ0 : xs_S} (h : zf_F l σ0 σ) (h7 : 3 ∈ l) (h8 : 4 ∈ l) (h9 : 5 ∈ l) (h10 : 6 ∈ l) : zf_F l σ0 (fg_copy_3_7 σ) := zf_u (zf_u (zf_u (zf_u (zf_u (zf_u (zf_u (zf_u (fc_F (fc_F (fc_F h h8) h9) h10) h7) h7) h7) h7) h7) h7) h7) h7
end ZN
