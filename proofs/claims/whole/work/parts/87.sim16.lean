/-! A segment of a task is taken. -/
abbrev zl_K : List Nat := [2, 4, 5, 6, 7, 8, 9, 10, 12, 14]
section ZO
variable {σ τ : xs_S}
theorem ft_t {s sel : Int32} {d k : Nat} (hI : zI s d k) (hD : zd_D (σ 14) τ 0 sel) : fr_fitsTask s σ = (if s = 0 then (if τ 24 0 = (1 : Int32) then (1 : Int32) else (if τ 24 0 = (2 : Int32) then (1 : Int32) else (0 : Int32))) else (if s = (1 : Int32) then (if τ 24 0 = (4 : Int32) then (1 : Int32) else (0 : Int32)) else (if τ 24 0 < (1 : Int32) then (0 : Int32) else (if (4 : Int32) < τ 24 0 then (0 : Int32) else (1 : Int32))))) := by
  unfold fr_fitsTask
  rw [rd_e hD.2.2.2.2.2.2.2.2.1]
  unfold fd_isCode
  rw [hD.2.2.2.1]
theorem zU_r {v c : Nat} {v' c' : Int32} {σ1 τ1 : xs_S} {lc lr : List Nat} (h : zT σ1 τ1) (hsw : τ 18 10 = 1) (hB : zb_B (σ 7) (σ 8) (σ 9) (σ 10) (τ 20)) (hF : zF lc lr σ σ1 τ τ1) (h1 : ∀ i ∈ [7, 8, 9, 10], i ∉ lc) (h3 : 20 ∉ lr) (hl : ∀ i ∈ [2, 12], i ∈ lc) (hr : ∀ i ∈ [18, 19], i ∈ lr) (hv1 : 10 ≤ v) (hv2 : v ≤ 14) (hc : c < 65536) (ev : v' = nI v) (ec : c' = nI c) : zU (xu_u (xu_u σ1 2 0 v') 2 1 c') (fy_raise v' c' τ1) ∧ zF lc lr σ (xu_u (xu_u σ1 2 0 v') 2 1 c') τ (fy_raise v' c' τ1) := by
  obtain ⟨q1, q2⟩ := zx_r h.1.1 h.1.2.1 h.1.2.2.1 hv1 hv2 hc ev ec
  have hF2 := zF_t hF (zF_m q2 hl hr)
  exact ⟨zU_F hsw hB q1 hF2 h1 h3, hF2⟩
theorem ym_take {a b : Int32} (h : ¬ fy_isRaised τ = 0) : fy_take a b τ = τ := by
  unfold fy_take
  rw [if_neg h]
theorem sv_take {s sel : Int32} {d k : Nat} (hI : zI s d k) (h : zT σ τ) (hs : jr_R sel 65535) : zz_Z (fr_takeSegment s sel σ) (fy_take s sel τ) (fun _ σ' τ' => zT σ' τ' ∧ zf_F zl_K σ σ' ∧ zf_F zl_E τ τ') (fun σ' τ' => zU σ' τ' ∧ zf_F zl_K σ σ' ∧ zf_F zl_E τ τ') := by
  unfold fr_takeSegment fy_take
  rw [if_pos (zT_n h), zI_h hI]
  refine zz_lc (fun s1 e1 => ?_)
  refine zz_lr (fun t2 f2 => ?_)
  have h1 : zT s1 t2 := by rw [e1, f2]; exact zT_clr hI h
  have K1 : zf_F zl_K σ s1 := by
    rw [e1]
    exact cl_F zf_r (by rcases hI with ⟨_, rfl, _⟩ | ⟨_, rfl, _⟩ | ⟨_, rfl, _⟩ <;> decide)
  have E1 : zf_F zl_E τ t2 := by
    rw [f2, sn_e hI]
    exact zf_u (zf_u zf_r (by decide)) (by decide)
  refine zz_lc (fun s2 e2 => ?_)
  have C2 : zf_F [7, 8, 9, 10] s1 s2 := by rw [e2]; exact cp_F zf_r (by decide) (by decide) (by decide) (by decide)
  have K2 : zf_F zl_K σ s2 := zf_t K1 (zf_m C2 (by decide))
  have hB : zb_B (s2 7) (s2 8) (s2 9) (s2 10) (t2 20) := by
    rw [e2]
    exact cp_73 ⟨h1.2.1, h1.2.2.1⟩
  have h2 : zT s2 t2 := by
    refine zT_F h1 ?_ (⟨C2, zf_r, zk_r⟩ : zF [7, 8, 9, 10] [] s1 s2 t2 t2) (by decide) (by decide)
    refine zl_F h1.1 (⟨C2, zf_r, zk_r⟩ : zF [7, 8, 9, 10] [] s1 s2 t2 t2) (by decide) (by decide) (by decide) (by decide) ?_ h1.1.2.2.1
    unfold zm_M
    rw [C2 12 (by decide), C2 2 (by decide)]
    exact h1.1.2.1
  have sw : t2 18 10 = 1 := h1.2.2.2.1
  rw [sl_null (τ := t2) hs]
  by_cases e0 : fy_isNull sel t2 = 0
  · rw [if_pos e0, if_pos e0]
    refine zz_b (sv_lookUp (k := 0) h2.1 hs (Or.inr (Or.inl rfl))) (fun _ σ3 τ3 q => ?_) (fun σ3 τ3 q => ?_)
    case refine_2 =>
      have hU := zU_F sw hB q.1 q.2 (by decide) (by decide)
      rw [if_neg (zU_n hU)]
      exact ⟨hU, zf_t K2 (zf_m q.2.1 (by decide)), zf_t E1 (zf_m q.2.2.1 (by decide))⟩
    obtain ⟨l3, F3, hD, _⟩ := q
    rw [cn_0] at hD
    have h3 := zT_F h2 l3 F3 (by decide) (by decide)
    have K3 : zf_F zl_K σ σ3 := zf_t K2 (zf_m F3.1 (by decide))
    have E3 : zf_F zl_E τ τ3 := zf_t E1 (zf_m F3.2.1 (by decide))
    rw [if_pos (zT_n h3)]
    refine zz_lr (fun v6 e6 => ?_)
    subst e6
    rw [ft_t hI hD]
    refine zz_lr (fun v7 e7 => ?_)
    rw [← e7]
    obtain ⟨g1, cd, hcd, _, g2⟩ := sl_code (σ := σ3) (τ := τ3) hs
    have fail : ∀ x : Int32, ¬ x = 0 → zz_Z (xp_b (fx_refuse x 10 (fr_codeOf sel σ3) σ3) (fun _ s7 => xl_l (fd_copy (fg_held s s7) 14 s7) (fun s8 => (some (), s8)))) (xl_l (fy_raise 10 (fy_codeOf sel τ3) τ3) (fun s9 => s9)) (fun (_ : Unit) σ' τ' => zT σ' τ' ∧ zf_F zl_K σ σ' ∧ zf_F zl_E τ τ') (fun σ' τ' => zU σ' τ' ∧ zf_F zl_K σ σ' ∧ zf_F zl_E τ τ') := by
      intro x hx
      refine zz_n hx ?_
      rw [g1, xl_e]
      obtain ⟨w1, w2⟩ := zU_r (v := 10) (v' := 10) h3 sw hB F3 (by decide) (by decide) (by decide) (by decide) (by decide) (by decide) hcd (by decide) g2
      exact ⟨w1, zf_t K2 (zf_m w2.1 (by decide)), zf_t E1 (zf_m w2.2.1 (by decide))⟩
    by_cases c7 : v7 = 0
    · rw [if_pos (α := xs_S) c7]
      exact fail _ (by simp [c7])
    · rw [if_neg (α := xs_S) c7, hD.2.2.2.2.2.2.1]
      by_cases c4 : τ3 26 0 = 0
      · rw [if_pos (α := xs_S) c4]
        exact fail _ (by simp [c4])
      · rw [if_neg (α := xs_S) c4]
        refine zz_p (by simp [c7, c4]) ?_
        rw [zI_h hI]
        refine zz_lc (fun s8 e8 => ?_)
        refine zz_lr (fun t8 f8 => ?_)
        have h8 : zT s8 t8 := by
          rw [e8, f8]
          refine zT_set hI (Or.inr (Or.inl rfl)) h3 (by rw [cn_0]; exact hD) hs (sl_n0.mp e0) (fun q => ?_)
          rw [hD.2.2.2.1]
          refine Classical.not_not.mp (fun z => c7 ?_)
          rw [e7, q, if_neg (by decide), if_pos rfl, if_neg z]
        refine zz_s ⟨h8, ?_, ?_⟩
        · rw [e8]
          exact zf_t K3 (fc_F zf_r (by rcases hI with ⟨_, rfl, _⟩ | ⟨_, rfl, _⟩ | ⟨_, rfl, _⟩ <;> decide))
        · rw [f8, ss_e hI]
          exact zf_t E3 (zf_u (zf_u (zf_u (zf_u (zf_u (zf_u zf_r (by decide)) (by decide)) (by decide)) (by decide)) (by decide)) (by decide))
  · rw [if_neg e0, if_neg e0]
    by_cases c2 : s = 2
    · rw [if_pos c2, if_pos c2]
      refine zz_p rfl ?_
      exact zz_s ⟨h2, K2, E1⟩
    · rw [if_neg c2, if_neg c2]
      refine zz_n (by decide) ?_
      rw [xl_e]
      obtain ⟨w1, w2⟩ := zU_r (σ := s2) (τ := t2) (lc := [2, 12]) (lr := [18, 19]) (v := 10) (c := 0) (v' := 10) (c' := 0) h2 sw hB zF_r (by decide) (by decide) (by decide) (by decide) (by decide) (by decide) (by decide) (by decide) (by decide)
      exact ⟨w1, zf_t K2 (zf_m w2.1 (by decide)), zf_t E1 (zf_m w2.2.1 (by decide))⟩
end ZO
