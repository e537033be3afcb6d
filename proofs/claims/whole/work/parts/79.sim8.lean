/-! The inner stack, by the number of its words. -/
variable {zs : Int32}
section ZV
variable {fc : Int32 × Int32} {fr wt : Int32} {σ τ : xs_S}
theorem sv_ch0 {a1 sp ss : Int32} (h : zQ zs fc fr wt σ τ) (ha : σ 14 4 = a1) (hl : jr_R a1 3) (hD : zd_D (σ 15) τ 1 ss) (hs : jr_R ss 65535) (hn : ¬ ss < 4) (h4 : σ 15 3 = 4) : zz_Z (fr_changeStack_0 sp σ) (fk_0 a1 sp ss τ) (fun _ σ' τ' => zQ zs fc fr wt σ' τ' ∧ zF [2, 3, 5, 12, 17] [18, 19, 20, 28] σ σ' τ τ') (fun σ' τ' => zW zs σ' τ' ∧ zF [2, 3, 5, 12, 17] [18, 19, 20, 28] σ σ' τ τ') := by
  unfold fr_changeStack_0 fk_0
  refine zz_lc (fun v1 e1 => ?_)
  refine zz_lc (fun v2 e2 => ?_)
  have p0 : τ 20 18 = v1 := by rw [e1]; exact h.2.1.2.2.2.2.1.symm
  have z0 : τ 20 1 = v2 := by rw [e2]; exact h.2.1.2.1.1.symm
  have F0 : zF [2, 3, 5, 12, 17] [18, 19, 20, 28] σ σ τ τ := zF_r
  rw [p0, z0]
  refine zz_lr (fun u9 g9 => ?_)
  refine zz_lr (fun u10 g10 => ?_)
  subst g9 g10
  refine sv_fin h ha hl hD hs hn h4 (fun σa τa ha0 Ga => ?_)
  have Fa : zF [2, 3, 5, 12, 17] [18, 19, 20, 28] σ σa τ τa := zF_t F0 (zF_m Ga (by decide) (by decide))
  refine zz_b (sv_pushWord ha0) (fun _ σb0 τb0 qb0 => ?_) (fun σ1 τ1 q1 => ?_)
  case refine_2 =>
    have hw := zW_n q1.1
    simp only [xl_e, ym_push hw]
    exact ⟨q1.1, zF_t Fa (zF_m q1.2 (by decide) (by decide))⟩
  have Fb0 : zF [2, 3, 5, 12, 17] [18, 19, 20, 28] σ σb0 τ τb0 := zF_t Fa (zF_m qb0.2 (by decide) (by decide))
  refine zz_b (sv_pushWord qb0.1) (fun _ σb1 τb1 qb1 => ?_) (fun σ1 τ1 q1 => ?_)
  case refine_2 =>
    exact ⟨q1.1, zF_t Fb0 (zF_m q1.2 (by decide) (by decide))⟩
  have Fb1 : zF [2, 3, 5, 12, 17] [18, 19, 20, 28] σ σb1 τ τb1 := zF_t Fb0 (zF_m qb1.2 (by decide) (by decide))
  exact zz_s ⟨qb1.1, Fb1⟩
theorem sv_ch1 {a1 sp ss : Int32} (h : zQ zs fc fr wt σ τ) (ha : σ 14 4 = a1) (hl : jr_R a1 3) (hD : zd_D (σ 15) τ 1 ss) (hs : jr_R ss 65535) (hn : ¬ ss < 4) (h4 : σ 15 3 = 4) : zz_Z (fr_changeStack_1 sp σ) (fk_1 a1 sp ss τ) (fun _ σ' τ' => zQ zs fc fr wt σ' τ' ∧ zF [2, 3, 5, 12, 17] [18, 19, 20, 28] σ σ' τ τ') (fun σ' τ' => zW zs σ' τ' ∧ zF [2, 3, 5, 12, 17] [18, 19, 20, 28] σ σ' τ τ') := by
  unfold fr_changeStack_1 fk_1
  refine zz_lc (fun v1 e1 => ?_)
  refine zz_lc (fun v2 e2 => ?_)
  have p0 : τ 20 18 = v1 := by rw [e1]; exact h.2.1.2.2.2.2.1.symm
  have z0 : τ 20 1 = v2 := by rw [e2]; exact h.2.1.2.1.1.symm
  have F0 : zF [2, 3, 5, 12, 17] [18, 19, 20, 28] σ σ τ τ := zF_r
  rw [p0]
  refine sv_rd (j := 0) h (fun σ1 τ1 h1 G1 w0 y1 => ?_) (fun σ1 τ1 q1 q2 => ⟨q1, zF_t F0 (zF_m q2 (by decide) (by decide))⟩)
  have F1 : zF [2, 3, 5, 12, 17] [18, 19, 20, 28] σ σ1 τ τ1 := zF_t F0 (zF_m G1 (by decide) (by decide))
  have p1 : τ1 20 18 = v1 := by rw [G1.2.1 20 (by decide)]; exact p0
  have z1 : τ1 20 1 = v2 := by rw [G1.2.1 20 (by decide)]; exact z0
  have A1 : σ1 14 4 = a1 := by rw [G1.1 14 (by decide)]; exact ha
  have D1 : zd_D (σ1 15) τ1 1 ss := zd_F hD G1.1 G1.2.1 (by decide) (by decide)
  have k1 : σ1 15 3 = 4 := by rw [G1.1 15 (by decide)]; exact h4
  rw [p1, z1]
  refine zz_lr (fun u9 g9 => ?_)
  refine zz_lr (fun u10 g10 => ?_)
  subst g9 g10
  refine sv_fin h1 A1 hl D1 hs hn k1 (fun σa τa ha0 Ga => ?_)
  have Fa : zF [2, 3, 5, 12, 17] [18, 19, 20, 28] σ σa τ τa := zF_t F1 (zF_m Ga (by decide) (by decide))
  have w0 : σa 17 0 = τa 28 0 := by rw [Ga.1 17 (by decide), Ga.2.1 28 (by decide)]; exact w0
  refine zz_b (sv_pushWord ha0) (fun _ σb0 τb0 qb0 => ?_) (fun σ1 τ1 q1 => ?_)
  case refine_2 =>
    have hw := zW_n q1.1
    simp only [xl_e, ym_push hw]
    exact ⟨q1.1, zF_t Fa (zF_m q1.2 (by decide) (by decide))⟩
  have Fb0 : zF [2, 3, 5, 12, 17] [18, 19, 20, 28] σ σb0 τ τb0 := zF_t Fa (zF_m qb0.2 (by decide) (by decide))
  have w0 : σb0 17 0 = τb0 28 0 := by rw [qb0.2.1 17 (by decide), qb0.2.2.1 28 (by decide)]; exact w0
  refine zz_b (sv_pushWord qb0.1) (fun _ σb1 τb1 qb1 => ?_) (fun σ1 τ1 q1 => ?_)
  case refine_2 =>
    have hw := zW_n q1.1
    simp only [xl_e, ym_push hw]
    exact ⟨q1.1, zF_t Fb0 (zF_m q1.2 (by decide) (by decide))⟩
  have Fb1 : zF [2, 3, 5, 12, 17] [18, 19, 20, 28] σ σb1 τ τb1 := zF_t Fb0 (zF_m qb1.2 (by decide) (by decide))
  have w0 : σb1 17 0 = τb1 28 0 := by rw [qb1.2.1 17 (by decide), qb1.2.2.1 28 (by decide)]; exact w0
  rw [w0]
  refine zz_b (sv_pushWord qb1.1) (fun _ σb2 τb2 qb2 => ?_) (fun σ1 τ1 q1 => ?_)
  case refine_2 =>
    exact ⟨q1.1, zF_t Fb1 (zF_m q1.2 (by decide) (by decide))⟩
  have Fb2 : zF [2, 3, 5, 12, 17] [18, 19, 20, 28] σ σb2 τ τb2 := zF_t Fb1 (zF_m qb2.2 (by decide) (by decide))
  have w0 : σb2 17 0 = τb2 28 0 := by rw [qb2.2.1 17 (by decide), qb2.2.2.1 28 (by decide)]; exact w0
  exact zz_s ⟨qb2.1, Fb2⟩
theorem sv_ch2 {a1 sp ss : Int32} (h : zQ zs fc fr wt σ τ) (ha : σ 14 4 = a1) (hl : jr_R a1 3) (hD : zd_D (σ 15) τ 1 ss) (hs : jr_R ss 65535) (hn : ¬ ss < 4) (h4 : σ 15 3 = 4) : zz_Z (fr_changeStack_2 sp σ) (fk_2 a1 sp ss τ) (fun _ σ' τ' => zQ zs fc fr wt σ' τ' ∧ zF [2, 3, 5, 12, 17] [18, 19, 20, 28] σ σ' τ τ') (fun σ' τ' => zW zs σ' τ' ∧ zF [2, 3, 5, 12, 17] [18, 19, 20, 28] σ σ' τ τ') := by
  unfold fr_changeStack_2 fk_2
  refine zz_lc (fun v1 e1 => ?_)
  refine zz_lc (fun v2 e2 => ?_)
  have p0 : τ 20 18 = v1 := by rw [e1]; exact h.2.1.2.2.2.2.1.symm
  have z0 : τ 20 1 = v2 := by rw [e2]; exact h.2.1.2.1.1.symm
  have F0 : zF [2, 3, 5, 12, 17] [18, 19, 20, 28] σ σ τ τ := zF_r
  rw [p0]
  refine sv_rd (j := 0) h (fun σ1 τ1 h1 G1 w0 y1 => ?_) (fun σ1 τ1 q1 q2 => ⟨q1, zF_t F0 (zF_m q2 (by decide) (by decide))⟩)
  have F1 : zF [2, 3, 5, 12, 17] [18, 19, 20, 28] σ σ1 τ τ1 := zF_t F0 (zF_m G1 (by decide) (by decide))
  have p1 : τ1 20 18 = v1 := by rw [G1.2.1 20 (by decide)]; exact p0
  have z1 : τ1 20 1 = v2 := by rw [G1.2.1 20 (by decide)]; exact z0
  have A1 : σ1 14 4 = a1 := by rw [G1.1 14 (by decide)]; exact ha
  have D1 : zd_D (σ1 15) τ1 1 ss := zd_F hD G1.1 G1.2.1 (by decide) (by decide)
  have k1 : σ1 15 3 = 4 := by rw [G1.1 15 (by decide)]; exact h4
  rw [p1]
  refine sv_rd (j := 1) h1 (fun σ2 τ2 h2 G2 w1 y2 => ?_) (fun σ1 τ1 q1 q2 => ⟨q1, zF_t F1 (zF_m q2 (by decide) (by decide))⟩)
  have F2 : zF [2, 3, 5, 12, 17] [18, 19, 20, 28] σ σ2 τ τ2 := zF_t F1 (zF_m G2 (by decide) (by decide))
  have p2 : τ2 20 18 = v1 := by rw [G2.2.1 20 (by decide)]; exact p1
  have z2 : τ2 20 1 = v2 := by rw [G2.2.1 20 (by decide)]; exact z1
  have A2 : σ2 14 4 = a1 := by rw [G2.1 14 (by decide)]; exact A1
  have D2 : zd_D (σ2 15) τ2 1 ss := zd_F D1 G2.1 G2.2.1 (by decide) (by decide)
  have k2 : σ2 15 3 = 4 := by rw [G2.1 15 (by decide)]; exact k1
  have w0 : σ2 17 0 = τ2 28 0 := by rw [(y2 0 (by decide)).1, (y2 0 (by decide)).2]; exact w0
  rw [p2, z2]
  refine zz_lr (fun u9 g9 => ?_)
  refine zz_lr (fun u10 g10 => ?_)
  subst g9 g10
  refine sv_fin h2 A2 hl D2 hs hn k2 (fun σa τa ha0 Ga => ?_)
  have Fa : zF [2, 3, 5, 12, 17] [18, 19, 20, 28] σ σa τ τa := zF_t F2 (zF_m Ga (by decide) (by decide))
  have w0 : σa 17 0 = τa 28 0 := by rw [Ga.1 17 (by decide), Ga.2.1 28 (by decide)]; exact w0
  have w1 : σa 17 1 = τa 28 1 := by rw [Ga.1 17 (by decide), Ga.2.1 28 (by decide)]; exact w1
  refine zz_b (sv_pushWord ha0) (fun _ σb0 τb0 qb0 => ?_) (fun σ1 τ1 q1 => ?_)
  case refine_2 =>
    have hw := zW_n q1.1
    simp only [xl_e, ym_push hw]
    exact ⟨q1.1, zF_t Fa (zF_m q1.2 (by decide) (by decide))⟩
  have Fb0 : zF [2, 3, 5, 12, 17] [18, 19, 20, 28] σ σb0 τ τb0 := zF_t Fa (zF_m qb0.2 (by decide) (by decide))
  have w0 : σb0 17 0 = τb0 28 0 := by rw [qb0.2.1 17 (by decide), qb0.2.2.1 28 (by decide)]; exact w0
  have w1 : σb0 17 1 = τb0 28 1 := by rw [qb0.2.1 17 (by decide), qb0.2.2.1 28 (by decide)]; exact w1
  refine zz_b (sv_pushWord qb0.1) (fun _ σb1 τb1 qb1 => ?_) (fun σ1 τ1 q1 => ?_)
  case refine_2 =>
    have hw := zW_n q1.1
    simp only [xl_e, ym_push hw]
    exact ⟨q1.1, zF_t Fb0 (zF_m q1.2 (by decide) (by decide))⟩
  have Fb1 : zF [2, 3, 5, 12, 17] [18, 19, 20, 28] σ σb1 τ τb1 := zF_t Fb0 (zF_m qb1.2 (by decide) (by decide))
  have w0 : σb1 17 0 = τb1 28 0 := by rw [qb1.2.1 17 (by decide), qb1.2.2.1 28 (by decide)]; exact w0
  have w1 : σb1 17 1 = τb1 28 1 := by rw [qb1.2.1 17 (by decide), qb1.2.2.1 28 (by decide)]; exact w1
  rw [w1]
  refine zz_b (sv_pushWord qb1.1) (fun _ σb2 τb2 qb2 => ?_) (fun σ1 τ1 q1 => ?_)
  case refine_2 =>
    have hw := zW_n q1.1
    simp only [xl_e, ym_push hw]
    exact ⟨q1.1, zF_t Fb1 (zF_m q1.2 (by decide) (by decide))⟩
  have Fb2 : zF [2, 3, 5, 12, 17] [18, 19, 20, 28] σ σb2 τ τb2 := zF_t Fb1 (zF_m qb2.2 (by decide) (by decide))
  have w0 : σb2 17 0 = τb2 28 0 := by rw [qb2.2.1 17 (by decide), qb2.2.2.1 28 (by decide)]; exact w0
  have w1 : σb2 17 1 = τb2 28 1 := by rw [qb2.2.1 17 (by decide), qb2.2.2.1 28 (by decide)]; exact w1
  rw [w0]
  refine zz_b (sv_pushWord qb2.1) (fun _ σb3 τb3 qb3 => ?_) (fun σ1 τ1 q1 => ?_)
  case refine_2 =>
    exact ⟨q1.1, zF_t Fb2 (zF_m q1.2 (by decide) (by decide))⟩
  have Fb3 : zF [2, 3, 5, 12, 17] [18, 19, 20, 28] σ σb3 τ τb3 := zF_t Fb2 (zF_m qb3.2 (by decide) (by decide))
  have w0 : σb3 17 0 = τb3 28 0 := by rw [qb3.2.1 17 (by decide), qb3.2.2.1 28 (by decide)]; exact w0
  have w1 : σb3 17 1 = τb3 28 1 := by rw [qb3.2.1 17 (by decide), qb3.2.2.1 28 (by decide)]; exact w1
  exact zz_s ⟨qb3.1, Fb3⟩
theorem sv_ch3 {a1 sp ss : Int32} (h : zQ zs fc fr wt σ τ) (ha : σ 14 4 = a1) (hl : jr_R a1 3) (hD : zd_D (σ 15) τ 1 ss) (hs : jr_R ss 65535) (hn : ¬ ss < 4) (h4 : σ 15 3 = 4) : zz_Z (fr_changeStack_3 sp σ) (fk_3 a1 sp ss τ) (fun _ σ' τ' => zQ zs fc fr wt σ' τ' ∧ zF [2, 3, 5, 12, 17] [18, 19, 20, 28] σ σ' τ τ') (fun σ' τ' => zW zs σ' τ' ∧ zF [2, 3, 5, 12, 17] [18, 19, 20, 28] σ σ' τ τ') := by
  unfold fr_changeStack_3 fk_3
  refine zz_lc (fun v1 e1 => ?_)
  refine zz_lc (fun v2 e2 => ?_)
  have p0 : τ 20 18 = v1 := by rw [e1]; exact h.2.1.2.2.2.2.1.symm
  have z0 : τ 20 1 = v2 := by rw [e2]; exact h.2.1.2.1.1.symm
  have F0 : zF [2, 3, 5, 12, 17] [18, 19, 20, 28] σ σ τ τ := zF_r
  rw [p0]
  refine sv_rd (j := 0) h (fun σ1 τ1 h1 G1 w0 y1 => ?_) (fun σ1 τ1 q1 q2 => ⟨q1, zF_t F0 (zF_m q2 (by decide) (by decide))⟩)
  have F1 : zF [2, 3, 5, 12, 17] [18, 19, 20, 28] σ σ1 τ τ1 := zF_t F0 (zF_m G1 (by decide) (by decide))
  have p1 : τ1 20 18 = v1 := by rw [G1.2.1 20 (by decide)]; exact p0
  have z1 : τ1 20 1 = v2 := by rw [G1.2.1 20 (by decide)]; exact z0
  have A1 : σ1 14 4 = a1 := by rw [G1.1 14 (by decide)]; exact ha
  have D1 : zd_D (σ1 15) τ1 1 ss := zd_F hD G1.1 G1.2.1 (by decide) (by decide)
  have k1 : σ1 15 3 = 4 := by rw [G1.1 15 (by decide)]; exact h4
  rw [p1]
  refine sv_rd (j := 1) h1 (fun σ2 τ2 h2 G2 w1 y2 => ?_) (fun σ1 τ1 q1 q2 => ⟨q1, zF_t F1 (zF_m q2 (by decide) (by decide))⟩)
  have F2 : zF [2, 3, 5, 12, 17] [18, 19, 20, 28] σ σ2 τ τ2 := zF_t F1 (zF_m G2 (by decide) (by decide))
  have p2 : τ2 20 18 = v1 := by rw [G2.2.1 20 (by decide)]; exact p1
  have z2 : τ2 20 1 = v2 := by rw [G2.2.1 20 (by decide)]; exact z1
  have A2 : σ2 14 4 = a1 := by rw [G2.1 14 (by decide)]; exact A1
  have D2 : zd_D (σ2 15) τ2 1 ss := zd_F D1 G2.1 G2.2.1 (by decide) (by decide)
  have k2 : σ2 15 3 = 4 := by rw [G2.1 15 (by decide)]; exact k1
  have w0 : σ2 17 0 = τ2 28 0 := by rw [(y2 0 (by decide)).1, (y2 0 (by decide)).2]; exact w0
  rw [p2]
  refine sv_rd (j := 2) h2 (fun σ3 τ3 h3 G3 w2 y3 => ?_) (fun σ1 τ1 q1 q2 => ⟨q1, zF_t F2 (zF_m q2 (by decide) (by decide))⟩)
  have F3 : zF [2, 3, 5, 12, 17] [18, 19, 20, 28] σ σ3 τ τ3 := zF_t F2 (zF_m G3 (by decide) (by decide))
  have p3 : τ3 20 18 = v1 := by rw [G3.2.1 20 (by decide)]; exact p2
  have z3 : τ3 20 1 = v2 := by rw [G3.2.1 20 (by decide)]; exact z2
  have A3 : σ3 14 4 = a1 := by rw [G3.1 14 (by decide)]; exact A2
  have D3 : zd_D (σ3 15) τ3 1 ss := zd_F D2 G3.1 G3.2.1 (by decide) (by decide)
  have k3 : σ3 15 3 = 4 := by rw [G3.1 15 (by decide)]; exact k2
  have w0 : σ3 17 0 = τ3 28 0 := by rw [(y3 0 (by decide)).1, (y3 0 (by decide)).2]; exact w0
  have w1 : σ3 17 1 = τ3 28 1 := by rw [(y3 1 (by decide)).1, (y3 1 (by decide)).2]; exact w1
  rw [p3, z3]
  refine zz_lr (fun u9 g9 => ?_)
  refine zz_lr (fun u10 g10 => ?_)
  subst g9 g10
  refine sv_fin h3 A3 hl D3 hs hn k3 (fun σa τa ha0 Ga => ?_)
  have Fa : zF [2, 3, 5, 12, 17] [18, 19, 20, 28] σ σa τ τa := zF_t F3 (zF_m Ga (by decide) (by decide))
  have w0 : σa 17 0 = τa 28 0 := by rw [Ga.1 17 (by decide), Ga.2.1 28 (by decide)]; exact w0
  have w1 : σa 17 1 = τa 28 1 := by rw [Ga.1 17 (by decide), Ga.2.1 28 (by decide)]; exact w1
  have w2 : σa 17 2 = τa 28 2 := by rw [Ga.1 17 (by decide), Ga.2.1 28 (by decide)]; exact w2
  refine zz_b (sv_pushWord ha0) (fun _ σb0 τb0 qb0 => ?_) (fun σ1 τ1 q1 => ?_)
  case refine_2 =>
    have hw := zW_n q1.1
    simp only [xl_e, ym_push hw]
    exact ⟨q1.1, zF_t Fa (zF_m q1.2 (by decide) (by decide))⟩
  have Fb0 : zF [2, 3, 5, 12, 17] [18, 19, 20, 28] σ σb0 τ τb0 := zF_t Fa (zF_m qb0.2 (by decide) (by decide))
  have w0 : σb0 17 0 = τb0 28 0 := by rw [qb0.2.1 17 (by decide), qb0.2.2.1 28 (by decide)]; exact w0
  have w1 : σb0 17 1 = τb0 28 1 := by rw [qb0.2.1 17 (by decide), qb0.2.2.1 28 (by decide)]; exact w1
  have w2 : σb0 17 2 = τb0 28 2 := by rw [qb0.2.1 17 (by decide), qb0.2.2.1 28 (by decide)]; exact w2
  refine zz_b (sv_pushWord qb0.1) (fun _ σb1 τb1 qb1 => ?_) (fun σ1 τ1 q1 => ?_)
  case refine_2 =>
    have hw := zW_n q1.1
    simp only [xl_e, ym_push hw]
    exact ⟨q1.1, zF_t Fb0 (zF_m q1.2 (by decide) (by decide))⟩
  have Fb1 : zF [2, 3, 5, 12, 17] [18, 19, 20, 28] σ σb1 τ τb1 := zF_t Fb0 (zF_m qb1.2 (by decide) (by decide))
  have w0 : σb1 17 0 = τb1 28 0 := by rw [qb1.2.1 17 (by decide), qb1.2.2.1 28 (by decide)]; exact w0
  have w1 : σb1 17 1 = τb1 28 1 := by rw [qb1.2.1 17 (by decide), qb1.2.2.1 28 (by decide)]; exact w1
  have w2 : σb1 17 2 = τb1 28 2 := by rw [qb1.2.1 17 (by decide), qb1.2.2.1 28 (by decide)]; exact w2
  rw [w2]
  refine zz_b (sv_pushWord qb1.1) (fun _ σb2 τb2 qb2 => ?_) (fun σ1 τ1 q1 => ?_)
  case refine_2 =>
    have hw := zW_n q1.1
    simp only [xl_e, ym_push hw]
    exact ⟨q1.1, zF_t Fb1 (zF_m q1.2 (by decide) (by decide))⟩
  have Fb2 : zF [2, 3, 5, 12, 17] [18, 19, 20, 28] σ σb2 τ τb2 := zF_t Fb1 (zF_m qb2.2 (by decide) (by decide))
  have w0 : σb2 17 0 = τb2 28 0 := by rw [qb2.2.1 17 (by decide), qb2.2.2.1 28 (by decide)]; exact w0
  have w1 : σb2 17 1 = τb2 28 1 := by rw [qb2.2.1 17 (by decide), qb2.2.2.1 28 (by decide)]; exact w1
  have w2 : σb2 17 2 = τb2 28 2 := by rw [qb2.2.1 17 (by decide), qb2.2.2.1 28 (by decide)]; exact w2
  rw [w1]
  refine zz_b (sv_pushWord qb2.1) (fun _ σb3 τb3 qb3 => ?_) (fun σ1 τ1 q1 => ?_)
  case refine_2 =>
    have hw := zW_n q1.1
    simp only [xl_e, ym_push hw]
    exact ⟨q1.1, zF_t Fb2 (zF_m q1.2 (by decide) (by decide))⟩
  have Fb3 : zF [2, 3, 5, 12, 17] [18, 19, 20, 28] σ σb3 τ τb3 := zF_t Fb2 (zF_m qb3.2 (by decide) (by decide))
  have w0 : σb3 17 0 = τb3 28 0 := by rw [qb3.2.1 17 (by decide), qb3.2.2.1 28 (by decide)]; exact w0
  have w1 : σb3 17 1 = τb3 28 1 := by rw [qb3.2.1 17 (by decide), qb3.2.2.1 28 (by decide)]; exact w1
  have w2 : σb3 17 2 = τb3 28 2 := by rw [qb3.2.1 17 (by decide), qb3.2.2.1 28 (by decide)]; exact w2
  rw [w0]
  refine zz_b (sv_pushWord qb3.1) (fun _ σb4 τb4 qb4 => ?_) (fun σ1 τ1 q1 => ?_)
  case refine_2 =>
    exact ⟨q1.1, zF_t Fb3 (zF_m q1.2 (by decide) (by decide))⟩
  have Fb4 : zF [2, 3, 5, 12, 17] [18, 19, 20, 28] σ σb4 τ τb4 := zF_t Fb3 (zF_m qb4.2 (by decide) (by decide))
  have w0 : σb4 17 0 = τb4 28 0 := by rw [qb4.2.1 17 (by decide), qb4.2.2.1 28 (by decide)]; exact w0
  have w1 : σb4 17 1 = τb4 28 1 := by rw [qb4.2.1 17 (by decide), qb4.2.2.1 28 (by decide)]; exact w1
  have w2 : σb4 17 2 = τb4 28 2 := by rw [qb4.2.1 17 (by decide), qb4.2.2.1 28 (by decide)]; exact w2
  exact zz_s ⟨qb4.1, Fb4⟩
theorem sv_ch4 {a1 sp ss : Int32} (h : zQ zs fc fr wt σ τ) (ha : σ 14 4 = a1) (hl : jr_R a1 3) (hD : zd_D (σ 15) τ 1 ss) (hs : jr_R ss 65535) (hn : ¬ ss < 4) (h4 : σ 15 3 = 4) : zz_Z (fr_changeStack_4 sp σ) (fk_4 a1 sp ss τ) (fun _ σ' τ' => zQ zs fc fr wt σ' τ' ∧ zF [2, 3, 5, 12, 17] [18, 19, 20, 28] σ σ' τ τ') (fun σ' τ' => zW zs σ' τ' ∧ zF [2, 3, 5, 12, 17] [18, 19, 20, 28] σ σ' τ τ') := by
  unfold fr_changeStack_4 fk_4
  refine zz_lc (fun v1 e1 => ?_)
  refine zz_lc (fun v2 e2 => ?_)
  have p0 : τ 20 18 = v1 := by rw [e1]; exact h.2.1.2.2.2.2.1.symm
  have z0 : τ 20 1 = v2 := by rw [e2]; exact h.2.1.2.1.1.symm
  have F0 : zF [2, 3, 5, 12, 17] [18, 19, 20, 28] σ σ τ τ := zF_r
  rw [p0]
  refine sv_rd (j := 0) h (fun σ1 τ1 h1 G1 w0 y1 => ?_) (fun σ1 τ1 q1 q2 => ⟨q1, zF_t F0 (zF_m q2 (by decide) (by decide))⟩)
  have F1 : zF [2, 3, 5, 12, 17] [18, 19, 20, 28] σ σ1 τ τ1 := zF_t F0 (zF_m G1 (by decide) (by decide))
  have p1 : τ1 20 18 = v1 := by rw [G1.2.1 20 (by decide)]; exact p0
  have z1 : τ1 20 1 = v2 := by rw [G1.2.1 20 (by decide)]; exact z0
  have A1 : σ1 14 4 = a1 := by rw [G1.1 14 (by decide)]; exact ha
  have D1 : zd_D (σ1 15) τ1 1 ss := zd_F hD G1.1 G1.2.1 (by decide) (by decide)
  have k1 : σ1 15 3 = 4 := by rw [G1.1 15 (by decide)]; exact h4
  rw [p1]
  refine sv_rd (j := 1) h1 (fun σ2 τ2 h2 G2 w1 y2 => ?_) (fun σ1 τ1 q1 q2 => ⟨q1, zF_t F1 (zF_m q2 (by decide) (by decide))⟩)
  have F2 : zF [2, 3, 5, 12, 17] [18, 19, 20, 28] σ σ2 τ τ2 := zF_t F1 (zF_m G2 (by decide) (by decide))
  have p2 : τ2 20 18 = v1 := by rw [G2.2.1 20 (by decide)]; exact p1
  have z2 : τ2 20 1 = v2 := by rw [G2.2.1 20 (by decide)]; exact z1
  have A2 : σ2 14 4 = a1 := by rw [G2.1 14 (by decide)]; exact A1
  have D2 : zd_D (σ2 15) τ2 1 ss := zd_F D1 G2.1 G2.2.1 (by decide) (by decide)
  have k2 : σ2 15 3 = 4 := by rw [G2.1 15 (by decide)]; exact k1
  have w0 : σ2 17 0 = τ2 28 0 := by rw [(y2 0 (by decide)).1, (y2 0 (by decide)).2]; exact w0
  rw [p2]
  refine sv_rd (j := 2) h2 (fun σ3 τ3 h3 G3 w2 y3 => ?_) (fun σ1 τ1 q1 q2 => ⟨q1, zF_t F2 (zF_m q2 (by decide) (by decide))⟩)
  have F3 : zF [2, 3, 5, 12, 17] [18, 19, 20, 28] σ σ3 τ τ3 := zF_t F2 (zF_m G3 (by decide) (by decide))
  have p3 : τ3 20 18 = v1 := by rw [G3.2.1 20 (by decide)]; exact p2
  have z3 : τ3 20 1 = v2 := by rw [G3.2.1 20 (by decide)]; exact z2
  have A3 : σ3 14 4 = a1 := by rw [G3.1 14 (by decide)]; exact A2
  have D3 : zd_D (σ3 15) τ3 1 ss := zd_F D2 G3.1 G3.2.1 (by decide) (by decide)
  have k3 : σ3 15 3 = 4 := by rw [G3.1 15 (by decide)]; exact k2
  have w0 : σ3 17 0 = τ3 28 0 := by rw [(y3 0 (by decide)).1, (y3 0 (by decide)).2]; exact w0
  have w1 : σ3 17 1 = τ3 28 1 := by rw [(y3 1 (by decide)).1, (y3 1 (by decide)).2]; exact w1
  rw [p3]
  refine sv_rd (j := 3) h3 (fun σ4 τ4 h4 G4 w3 y4 => ?_) (fun σ1 τ1 q1 q2 => ⟨q1, zF_t F3 (zF_m q2 (by decide) (by decide))⟩)
  have F4 : zF [2, 3, 5, 12, 17] [18, 19, 20, 28] σ σ4 τ τ4 := zF_t F3 (zF_m G4 (by decide) (by decide))
  have p4 : τ4 20 18 = v1 := by rw [G4.2.1 20 (by decide)]; exact p3
  have z4 : τ4 20 1 = v2 := by rw [G4.2.1 20 (by decide)]; exact z3
  have A4 : σ4 14 4 = a1 := by rw [G4.1 14 (by decide)]; exact A3
  have D4 : zd_D (σ4 15) τ4 1 ss := zd_F D3 G4.1 G4.2.1 (by decide) (by decide)
  have k4 : σ4 15 3 = 4 := by rw [G4.1 15 (by decide)]; exact k3
  have w0 : σ4 17 0 = τ4 28 0 := by rw [(y4 0 (by decide)).1, (y4 0 (by decide)).2]; exact w0
  have w1 : σ4 17 1 = τ4 28 1 := by rw [(y4 1 (by decide)).1, (y4 1 (by decide)).2]; exact w1
  have w2 : σ4 17 2 = τ4 28 2 := by rw [(y4 2 (by decide)).1, (y4 2 (by decide)).2]; exact w2
  rw [p4, z4]
  refine zz_lr (fun u9 g9 => ?_)
  refine zz_lr (fun u10 g10 => ?_)
  subst g9 g10
  refine sv_fin h4 A4 hl D4 hs hn k4 (fun σa τa ha0 Ga => ?_)
  have Fa : zF [2, 3, 5, 12, 17] [18, 19, 20, 28] σ σa τ τa := zF_t F4 (zF_m Ga (by decide) (by decide))
  have w0 : σa 17 0 = τa 28 0 := by rw [Ga.1 17 (by decide), Ga.2.1 28 (by decide)]; exact w0
  have w1 : σa 17 1 = τa 28 1 := by rw [Ga.1 17 (by decide), Ga.2.1 28 (by decide)]; exact w1
  have w2 : σa 17 2 = τa 28 2 := by rw [Ga.1 17 (by decide), Ga.2.1 28 (by decide)]; exact w2
  have w3 : σa 17 3 = τa 28 3 := by rw [Ga.1 17 (by decide), Ga.2.1 28 (by decide)]; exact w3
  refine zz_b (sv_pushWord ha0) (fun _ σb0 τb0 qb0 => ?_) (fun σ1 τ1 q1 => ?_)
  case refine_2 =>
    have hw := zW_n q1.1
    simp only [xl_e, ym_push hw]
    exact ⟨q1.1, zF_t Fa (zF_m q1.2 (by decide) (by decide))⟩
  have Fb0 : zF [2, 3, 5, 12, 17] [18, 19, 20, 28] σ σb0 τ τb0 := zF_t Fa (zF_m qb0.2 (by decide) (by decide))
  have w0 : σb0 17 0 = τb0 28 0 := by rw [qb0.2.1 17 (by decide), qb0.2.2.1 28 (by decide)]; exact w0
  have w1 : σb0 17 1 = τb0 28 1 := by rw [qb0.2.1 17 (by decide), qb0.2.2.1 28 (by decide)]; exact w1
  have w2 : σb0 17 2 = τb0 28 2 := by rw [qb0.2.1 17 (by decide), qb0.2.2.1 28 (by decide)]; exact w2
  have w3 : σb0 17 3 = τb0 28 3 := by rw [qb0.2.1 17 (by decide), qb0.2.2.1 28 (by decide)]; exact w3
  refine zz_b (sv_pushWord qb0.1) (fun _ σb1 τb1 qb1 => ?_) (fun σ1 τ1 q1 => ?_)
  case refine_2 =>
    have hw := zW_n q1.1
    simp only [xl_e, ym_push hw]
    exact ⟨q1.1, zF_t Fb0 (zF_m q1.2 (by decide) (by decide))⟩
  have Fb1 : zF [2, 3, 5, 12, 17] [18, 19, 20, 28] σ σb1 τ τb1 := zF_t Fb0 (zF_m qb1.2 (by decide) (by decide))
  have w0 : σb1 17 0 = τb1 28 0 := by rw [qb1.2.1 17 (by decide), qb1.2.2.1 28 (by decide)]; exact w0
  have w1 : σb1 17 1 = τb1 28 1 := by rw [qb1.2.1 17 (by decide), qb1.2.2.1 28 (by decide)]; exact w1
  have w2 : σb1 17 2 = τb1 28 2 := by rw [qb1.2.1 17 (by decide), qb1.2.2.1 28 (by decide)]; exact w2
  have w3 : σb1 17 3 = τb1 28 3 := by rw [qb1.2.1 17 (by decide), qb1.2.2.1 28 (by decide)]; exact w3
  rw [w3]
  refine zz_b (sv_pushWord qb1.1) (fun _ σb2 τb2 qb2 => ?_) (fun σ1 τ1 q1 => ?_)
  case refine_2 =>
    have hw := zW_n q1.1
    simp only [xl_e, ym_push hw]
    exact ⟨q1.1, zF_t Fb1 (zF_m q1.2 (by decide) (by decide))⟩
  have Fb2 : zF [2, 3, 5, 12, 17] [18, 19, 20, 28] σ σb2 τ τb2 := zF_t Fb1 (zF_m qb2.2 (by decide) (by decide))
  have w0 : σb2 17 0 = τb2 28 0 := by rw [qb2.2.1 17 (by decide), qb2.2.2.1 28 (by decide)]; exact w0
  have w1 : σb2 17 1 = τb2 28 1 := by rw [qb2.2.1 17 (by decide), qb2.2.2.1 28 (by decide)]; exact w1
  have w2 : σb2 17 2 = τb2 28 2 := by rw [qb2.2.1 17 (by decide), qb2.2.2.1 28 (by decide)]; exact w2
  have w3 : σb2 17 3 = τb2 28 3 := by rw [qb2.2.1 17 (by decide), qb2.2.2.1 28 (by decide)]; exact w3
  rw [w2]
  refine zz_b (sv_pushWord qb2.1) (fun _ σb3 τb3 qb3 => ?_) (fun σ1 τ1 q1 => ?_)
  case refine_2 =>
    have hw := zW_n q1.1
    simp only [xl_e, ym_push hw]
    exact ⟨q1.1, zF_t Fb2 (zF_m q1.2 (by decide) (by decide))⟩
  have Fb3 : zF [2, 3, 5, 12, 17] [18, 19, 20, 28] σ σb3 τ τb3 := zF_t Fb2 (zF_m qb3.2 (by decide) (by decide))
  have w0 : σb3 17 0 = τb3 28 0 := by rw [qb3.2.1 17 (by decide), qb3.2.2.1 28 (by decide)]; exact w0
  have w1 : σb3 17 1 = τb3 28 1 := by rw [qb3.2.1 17 (by decide), qb3.2.2.1 28 (by decide)]; exact w1
  have w2 : σb3 17 2 = τb3 28 2 := by rw [qb3.2.1 17 (by decide), qb3.2.2.1 28 (by decide)]; exact w2
  have w3 : σb3 17 3 = τb3 28 3 := by rw [qb3.2.1 17 (by decide), qb3.2.2.1 28 (by decide)]; exact w3
  rw [w1]
  refine zz_b (sv_pushWord qb3.1) (fun _ σb4 τb4 qb4 => ?_) (fun σ1 τ1 q1 => ?_)
  case refine_2 =>
    have hw := zW_n q1.1
    simp only [xl_e, ym_push hw]
    exact ⟨q1.1, zF_t Fb3 (zF_m q1.2 (by decide) (by decide))⟩
  have Fb4 : zF [2, 3, 5, 12, 17] [18, 19, 20, 28] σ σb4 τ τb4 := zF_t Fb3 (zF_m qb4.2 (by decide) (by decide))
  have w0 : σb4 17 0 = τb4 28 0 := by rw [qb4.2.1 17 (by decide), qb4.2.2.1 28 (by decide)]; exact w0
  have w1 : σb4 17 1 = τb4 28 1 := by rw [qb4.2.1 17 (by decide), qb4.2.2.1 28 (by decide)]; exact w1
  have w2 : σb4 17 2 = τb4 28 2 := by rw [qb4.2.1 17 (by decide), qb4.2.2.1 28 (by decide)]; exact w2
  have w3 : σb4 17 3 = τb4 28 3 := by rw [qb4.2.1 17 (by decide), qb4.2.2.1 28 (by decide)]; exact w3
  rw [w0]
  refine zz_b (sv_pushWord qb4.1) (fun _ σb5 τb5 qb5 => ?_) (fun σ1 τ1 q1 => ?_)
  case refine_2 =>
    exact ⟨q1.1, zF_t Fb4 (zF_m q1.2 (by decide) (by decide))⟩
  have Fb5 : zF [2, 3, 5, 12, 17] [18, 19, 20, 28] σ σb5 τ τb5 := zF_t Fb4 (zF_m qb5.2 (by decide) (by decide))
  have w0 : σb5 17 0 = τb5 28 0 := by rw [qb5.2.1 17 (by decide), qb5.2.2.1 28 (by decide)]; exact w0
  have w1 : σb5 17 1 = τb5 28 1 := by rw [qb5.2.1 17 (by decide), qb5.2.2.1 28 (by decide)]; exact w1
  have w2 : σb5 17 2 = τb5 28 2 := by rw [qb5.2.1 17 (by decide), qb5.2.2.1 28 (by decide)]; exact w2
  have w3 : σb5 17 3 = τb5 28 3 := by rw [qb5.2.1 17 (by decide), qb5.2.2.1 28 (by decide)]; exact w3
  exact zz_s ⟨qb5.1, Fb5⟩
theorem sv_ch5 {a1 sp ss : Int32} (h : zQ zs fc fr wt σ τ) (ha : σ 14 4 = a1) (hl : jr_R a1 3) (hD : zd_D (σ 15) τ 1 ss) (hs : jr_R ss 65535) (hn : ¬ ss < 4) (h4 : σ 15 3 = 4) : zz_Z (fr_changeStack_5 sp σ) (fk_5 a1 sp ss τ) (fun _ σ' τ' => zQ zs fc fr wt σ' τ' ∧ zF [2, 3, 5, 12, 17] [18, 19, 20, 28] σ σ' τ τ') (fun σ' τ' => zW zs σ' τ' ∧ zF [2, 3, 5, 12, 17] [18, 19, 20, 28] σ σ' τ τ') := by
  unfold fr_changeStack_5 fk_5
  refine zz_lc (fun v1 e1 => ?_)
  refine zz_lc (fun v2 e2 => ?_)
  have p0 : τ 20 18 = v1 := by rw [e1]; exact h.2.1.2.2.2.2.1.symm
  have z0 : τ 20 1 = v2 := by rw [e2]; exact h.2.1.2.1.1.symm
  have F0 : zF [2, 3, 5, 12, 17] [18, 19, 20, 28] σ σ τ τ := zF_r
  rw [p0]
  refine sv_rd (j := 0) h (fun σ1 τ1 h1 G1 w0 y1 => ?_) (fun σ1 τ1 q1 q2 => ⟨q1, zF_t F0 (zF_m q2 (by decide) (by decide))⟩)
  have F1 : zF [2, 3, 5, 12, 17] [18, 19, 20, 28] σ σ1 τ τ1 := zF_t F0 (zF_m G1 (by decide) (by decide))
  have p1 : τ1 20 18 = v1 := by rw [G1.2.1 20 (by decide)]; exact p0
  have z1 : τ1 20 1 = v2 := by rw [G1.2.1 20 (by decide)]; exact z0
  have A1 : σ1 14 4 = a1 := by rw [G1.1 14 (by decide)]; exact ha
  have D1 : zd_D (σ1 15) τ1 1 ss := zd_F hD G1.1 G1.2.1 (by decide) (by decide)
  have k1 : σ1 15 3 = 4 := by rw [G1.1 15 (by decide)]; exact h4
  rw [p1]
  refine sv_rd (j := 1) h1 (fun σ2 τ2 h2 G2 w1 y2 => ?_) (fun σ1 τ1 q1 q2 => ⟨q1, zF_t F1 (zF_m q2 (by decide) (by decide))⟩)
  have F2 : zF [2, 3, 5, 12, 17] [18, 19, 20, 28] σ σ2 τ τ2 := zF_t F1 (zF_m G2 (by decide) (by decide))
  have p2 : τ2 20 18 = v1 := by rw [G2.2.1 20 (by decide)]; exact p1
  have z2 : τ2 20 1 = v2 := by rw [G2.2.1 20 (by decide)]; exact z1
  have A2 : σ2 14 4 = a1 := by rw [G2.1 14 (by decide)]; exact A1
  have D2 : zd_D (σ2 15) τ2 1 ss := zd_F D1 G2.1 G2.2.1 (by decide) (by decide)
  have k2 : σ2 15 3 = 4 := by rw [G2.1 15 (by decide)]; exact k1
  have w0 : σ2 17 0 = τ2 28 0 := by rw [(y2 0 (by decide)).1, (y2 0 (by decide)).2]; exact w0
  rw [p2]
  refine sv_rd (j := 2) h2 (fun σ3 τ3 h3 G3 w2 y3 => ?_) (fun σ1 τ1 q1 q2 => ⟨q1, zF_t F2 (zF_m q2 (by decide) (by decide))⟩)
  have F3 : zF [2, 3, 5, 12, 17] [18, 19, 20, 28] σ σ3 τ τ3 := zF_t F2 (zF_m G3 (by decide) (by decide))
  have p3 : τ3 20 18 = v1 := by rw [G3.2.1 20 (by decide)]; exact p2
  have z3 : τ3 20 1 = v2 := by rw [G3.2.1 20 (by decide)]; exact z2
  have A3 : σ3 14 4 = a1 := by rw [G3.1 14 (by decide)]; exact A2
  have D3 : zd_D (σ3 15) τ3 1 ss := zd_F D2 G3.1 G3.2.1 (by decide) (by decide)
  have k3 : σ3 15 3 = 4 := by rw [G3.1 15 (by decide)]; exact k2
  have w0 : σ3 17 0 = τ3 28 0 := by rw [(y3 0 (by decide)).1, (y3 0 (by decide)).2]; exact w0
  have w1 : σ3 17 1 = τ3 28 1 := by rw [(y3 1 (by decide)).1, (y3 1 (by decide)).2]; exact w1
  rw [p3]
  refine sv_rd (j := 3) h3 (fun σ4 τ4 h4 G4 w3 y4 => ?_) (fun σ1 τ1 q1 q2 => ⟨q1, zF_t F3 (zF_m q2 (by decide) (by decide))⟩)
  have F4 : zF [2, 3, 5, 12, 17] [18, 19, 20, 28] σ σ4 τ τ4 := zF_t F3 (zF_m G4 (by decide) (by decide))
  have p4 : τ4 20 18 = v1 := by rw [G4.2.1 20 (by decide)]; exact p3
  have z4 : τ4 20 1 = v2 := by rw [G4.2.1 20 (by decide)]; exact z3
  have A4 : σ4 14 4 = a1 := by rw [G4.1 14 (by decide)]; exact A3
  have D4 : zd_D (σ4 15) τ4 1 ss := zd_F D3 G4.1 G4.2.1 (by decide) (by decide)
  have k4 : σ4 15 3 = 4 := by rw [G4.1 15 (by decide)]; exact k3
  have w0 : σ4 17 0 = τ4 28 0 := by rw [(y4 0 (by decide)).1, (y4 0 (by decide)).2]; exact w0
  have w1 : σ4 17 1 = τ4 28 1 := by rw [(y4 1 (by decide)).1, (y4 1 (by decide)).2]; exact w1
  have w2 : σ4 17 2 = τ4 28 2 := by rw [(y4 2 (by decide)).1, (y4 2 (by decide)).2]; exact w2
  rw [p4]
  refine sv_rd (j := 4) h4 (fun σ5 τ5 h5 G5 w4 y5 => ?_) (fun σ1 τ1 q1 q2 => ⟨q1, zF_t F4 (zF_m q2 (by decide) (by decide))⟩)
  have F5 : zF [2, 3, 5, 12, 17] [18, 19, 20, 28] σ σ5 τ τ5 := zF_t F4 (zF_m G5 (by decide) (by decide))
  have p5 : τ5 20 18 = v1 := by rw [G5.2.1 20 (by decide)]; exact p4
  have z5 : τ5 20 1 = v2 := by rw [G5.2.1 20 (by decide)]; exact z4
  have A5 : σ5 14 4 = a1 := by rw [G5.1 14 (by decide)]; exact A4
  have D5 : zd_D (σ5 15) τ5 1 ss := zd_F D4 G5.1 G5.2.1 (by decide) (by decide)
  have k5 : σ5 15 3 = 4 := by rw [G5.1 15 (by decide)]; exact k4
  have w0 : σ5 17 0 = τ5 28 0 := by rw [(y5 0 (by decide)).1, (y5 0 (by decide)).2]; exact w0
  have w1 : σ5 17 1 = τ5 28 1 := by rw [(y5 1 (by decide)).1, (y5 1 (by decide)).2]; exact w1
  have w2 : σ5 17 2 = τ5 28 2 := by rw [(y5 2 (by decide)).1, (y5 2 (by decide)).2]; exact w2
  have w3 : σ5 17 3 = τ5 28 3 := by rw [(y5 3 (by decide)).1, (y5 3 (by decide)).2]; exact w3
  rw [p5, z5]
  refine zz_lr (fun u9 g9 => ?_)
  refine zz_lr (fun u10 g10 => ?_)
  subst g9 g10
  refine sv_fin h5 A5 hl D5 hs hn k5 (fun σa τa ha0 Ga => ?_)
  have Fa : zF [2, 3, 5, 12, 17] [18, 19, 20, 28] σ σa τ τa := zF_t F5 (zF_m Ga (by decide) (by decide))
  have w0 : σa 17 0 = τa 28 0 := by rw [Ga.1 17 (by decide), Ga.2.1 28 (by decide)]; exact w0
  have w1 : σa 17 1 = τa 28 1 := by rw [Ga.1 17 (by decide), Ga.2.1 28 (by decide)]; exact w1
  have w2 : σa 17 2 = τa 28 2 := by rw [Ga.1 17 (by decide), Ga.2.1 28 (by decide)]; exact w2
  have w3 : σa 17 3 = τa 28 3 := by rw [Ga.1 17 (by decide), Ga.2.1 28 (by decide)]; exact w3
  have w4 : σa 17 4 = τa 28 4 := by rw [Ga.1 17 (by decide), Ga.2.1 28 (by decide)]; exact w4
  refine zz_b (sv_pushWord ha0) (fun _ σb0 τb0 qb0 => ?_) (fun σ1 τ1 q1 => ?_)
  case refine_2 =>
    have hw := zW_n q1.1
    simp only [xl_e, ym_push hw]
    exact ⟨q1.1, zF_t Fa (zF_m q1.2 (by decide) (by decide))⟩
  have Fb0 : zF [2, 3, 5, 12, 17] [18, 19, 20, 28] σ σb0 τ τb0 := zF_t Fa (zF_m qb0.2 (by decide) (by decide))
  have w0 : σb0 17 0 = τb0 28 0 := by rw [qb0.2.1 17 (by decide), qb0.2.2.1 28 (by decide)]; exact w0
  have w1 : σb0 17 1 = τb0 28 1 := by rw [qb0.2.1 17 (by decide), qb0.2.2.1 28 (by decide)]; exact w1
  have w2 : σb0 17 2 = τb0 28 2 := by rw [qb0.2.1 17 (by decide), qb0.2.2.1 28 (by decide)]; exact w2
  have w3 : σb0 17 3 = τb0 28 3 := by rw [qb0.2.1 17 (by decide), qb0.2.2.1 28 (by decide)]; exact w3
  have w4 : σb0 17 4 = τb0 28 4 := by rw [qb0.2.1 17 (by decide), qb0.2.2.1 28 (by decide)]; exact w4
  refine zz_b (sv_pushWord qb0.1) (fun _ σb1 τb1 qb1 => ?_) (fun σ1 τ1 q1 => ?_)
  case refine_2 =>
    have hw := zW_n q1.1
    simp only [xl_e, ym_push hw]
    exact ⟨q1.1, zF_t Fb0 (zF_m q1.2 (by decide) (by decide))⟩
  have Fb1 : zF [2, 3, 5, 12, 17] [18, 19, 20, 28] σ σb1 τ τb1 := zF_t Fb0 (zF_m qb1.2 (by decide) (by decide))
  have w0 : σb1 17 0 = τb1 28 0 := by rw [qb1.2.1 17 (by decide), qb1.2.2.1 28 (by decide)]; exact w0
  have w1 : σb1 17 1 = τb1 28 1 := by rw [qb1.2.1 17 (by decide), qb1.2.2.1 28 (by decide)]; exact w1
  have w2 : σb1 17 2 = τb1 28 2 := by rw [qb1.2.1 17 (by decide), qb1.2.2.1 28 (by decide)]; exact w2
  have w3 : σb1 17 3 = τb1 28 3 := by rw [qb1.2.1 17 (by decide), qb1.2.2.1 28 (by decide)]; exact w3
  have w4 : σb1 17 4 = τb1 28 4 := by rw [qb1.2.1 17 (by decide), qb1.2.2.1 28 (by decide)]; exact w4
  rw [w4]
  refine zz_b (sv_pushWord qb1.1) (fun _ σb2 τb2 qb2 => ?_) (fun σ1 τ1 q1 => ?_)
  case refine_2 =>
    have hw := zW_n q1.1
    simp only [xl_e, ym_push hw]
    exact ⟨q1.1, zF_t Fb1 (zF_m q1.2 (by decide) (by decide))⟩
  have Fb2 : zF [2, 3, 5, 12, 17] [18, 19, 20, 28] σ σb2 τ τb2 := zF_t Fb1 (zF_m qb2.2 (by decide) (by decide))
  have w0 : σb2 17 0 = τb2 28 0 := by rw [qb2.2.1 17 (by decide), qb2.2.2.1 28 (by decide)]; exact w0
  have w1 : σb2 17 1 = τb2 28 1 := by rw [qb2.2.1 17 (by decide), qb2.2.2.1 28 (by decide)]; exact w1
  have w2 : σb2 17 2 = τb2 28 2 := by rw [qb2.2.1 17 (by decide), qb2.2.2.1 28 (by decide)]; exact w2
  have w3 : σb2 17 3 = τb2 28 3 := by rw [qb2.2.1 17 (by decide), qb2.2.2.1 28 (by decide)]; exact w3
  have w4 : σb2 17 4 = τb2 28 4 := by rw [qb2.2.1 17 (by decide), qb2.2.2.1 28 (by decide)]; exact w4
  rw [w3]
  refine zz_b (sv_pushWord qb2.1) (fun _ σb3 τb3 qb3 => ?_) (fun σ1 τ1 q1 => ?_)
  case refine_2 =>
    have hw := zW_n q1.1
    simp only [xl_e, ym_push hw]
    exact ⟨q1.1, zF_t Fb2 (zF_m q1.2 (by decide) (by decide))⟩
  have Fb3 : zF [2, 3, 5, 12, 17] [18, 19, 20, 28] σ σb3 τ τb3 := zF_t Fb2 (zF_m qb3.2 (by decide) (by decide))
  have w0 : σb3 17 0 = τb3 28 0 := by rw [qb3.2.1 17 (by decide), qb3.2.2.1 28 (by decide)]; exact w0
  have w1 : σb3 17 1 = τb3 28 1 := by rw [qb3.2.1 17 (by decide), qb3.2.2.1 28 (by decide)]; exact w1
  have w2 : σb3 17 2 = τb3 28 2 := by rw [qb3.2.1 17 (by decide), qb3.2.2.1 28 (by decide)]; exact w2
  have w3 : σb3 17 3 = τb3 28 3 := by rw [qb3.2.1 17 (by decide), qb3.2.2.1 28 (by decide)]; exact w3
  have w4 : σb3 17 4 = τb3 28 4 := by rw [qb3.2.1 17 (by decide), qb3.2.2.1 28 (by decide)]; exact w4
  rw [w2]
  refine zz_b (sv_pushWord qb3.1) (fun _ σb4 τb4 qb4 => ?_) (fun σ1 τ1 q1 => ?_)
  case refine_2 =>
    have hw := zW_n q1.1
    simp only [xl_e, ym_push hw]
    exact ⟨q1.1, zF_t Fb3 (zF_m q1.2 (by decide) (by decide))⟩
  have Fb4 : zF [2, 3, 5, 12, 17] [18, 19, 20, 28] σ σb4 τ τb4 := zF_t Fb3 (zF_m qb4.2 (by decide) (by decide))
  have w0 : σb4 17 0 = τb4 28 0 := by rw [qb4.2.1 17 (by decide), qb4.2.2.1 28 (by decide)]; exact w0
  have w1 : σb4 17 1 = τb4 28 1 := by rw [qb4.2.1 17 (by decide), qb4.2.2.1 28 (by decide)]; exact w1
  have w2 : σb4 17 2 = τb4 28 2 := by rw [qb4.2.1 17 (by decide), qb4.2.2.1 28 (by decide)]; exact w2
  have w3 : σb4 17 3 = τb4 28 3 := by rw [qb4.2.1 17 (by decide), qb4.2.2.1 28 (by decide)]; exact w3
  have w4 : σb4 17 4 = τb4 28 4 := by rw [qb4.2.1 17 (by decide), qb4.2.2.1 28 (by decide)]; exact w4
  rw [w1]
  refine zz_b (sv_pushWord qb4.1) (fun _ σb5 τb5 qb5 => ?_) (fun σ1 τ1 q1 => ?_)
  case refine_2 =>
    have hw := zW_n q1.1
    simp only [xl_e, ym_push hw]
    exact ⟨q1.1, zF_t Fb4 (zF_m q1.2 (by decide) (by decide))⟩
  have Fb5 : zF [2, 3, 5, 12, 17] [18, 19, 20, 28] σ σb5 τ τb5 := zF_t Fb4 (zF_m qb5.2 (by decide) (by decide))
  have w0 : σb5 17 0 = τb5 28 0 := by rw [qb5.2.1 17 (by decide), qb5.2.2.1 28 (by decide)]; exact w0
  have w1 : σb5 17 1 = τb5 28 1 := by rw [qb5.2.1 17 (by decide), qb5.2.2.1 28 (by decide)]; exact w1
  have w2 : σb5 17 2 = τb5 28 2 := by rw [qb5.2.1 17 (by decide), qb5.2.2.1 28 (by decide)]; exact w2
  have w3 : σb5 17 3 = τb5 28 3 := by rw [qb5.2.1 17 (by decide), qb5.2.2.1 28 (by decide)]; exact w3
  have w4 : σb5 17 4 = τb5 28 4 := by rw [qb5.2.1 17 (by decide), qb5.2.2.1 28 (by decide)]; exact w4
  rw [w0]
  refine zz_b (sv_pushWord qb5.1) (fun _ σb6 τb6 qb6 => ?_) (fun σ1 τ1 q1 => ?_)
  case refine_2 =>
    exact ⟨q1.1, zF_t Fb5 (zF_m q1.2 (by decide) (by decide))⟩
  have Fb6 : zF [2, 3, 5, 12, 17] [18, 19, 20, 28] σ σb6 τ τb6 := zF_t Fb5 (zF_m qb6.2 (by decide) (by decide))
  have w0 : σb6 17 0 = τb6 28 0 := by rw [qb6.2.1 17 (by decide), qb6.2.2.1 28 (by decide)]; exact w0
  have w1 : σb6 17 1 = τb6 28 1 := by rw [qb6.2.1 17 (by decide), qb6.2.2.1 28 (by decide)]; exact w1
  have w2 : σb6 17 2 = τb6 28 2 := by rw [qb6.2.1 17 (by decide), qb6.2.2.1 28 (by decide)]; exact w2
  have w3 : σb6 17 3 = τb6 28 3 := by rw [qb6.2.1 17 (by decide), qb6.2.2.1 28 (by decide)]; exact w3
  have w4 : σb6 17 4 = τb6 28 4 := by rw [qb6.2.1 17 (by decide), qb6.2.2.1 28 (by decide)]; exact w4
  exact zz_s ⟨qb6.1, Fb6⟩
theorem sv_ch6 {a1 sp ss : Int32} (h : zQ zs fc fr wt σ τ) (ha : σ 14 4 = a1) (hl : jr_R a1 3) (hD : zd_D (σ 15) τ 1 ss) (hs : jr_R ss 65535) (hn : ¬ ss < 4) (h4 : σ 15 3 = 4) : zz_Z (fr_changeStack_6 sp σ) (fk_6 a1 sp ss τ) (fun _ σ' τ' => zQ zs fc fr wt σ' τ' ∧ zF [2, 3, 5, 12, 17] [18, 19, 20, 28] σ σ' τ τ') (fun σ' τ' => zW zs σ' τ' ∧ zF [2, 3, 5, 12, 17] [18, 19, 20, 28] σ σ' τ τ') := by
  unfold fr_changeStack_6 fk_6
  refine zz_lc (fun v1 e1 => ?_)
  refine zz_lc (fun v2 e2 => ?_)
  have p0 : τ 20 18 = v1 := by rw [e1]; exact h.2.1.2.2.2.2.1.symm
  have z0 : τ 20 1 = v2 := by rw [e2]; exact h.2.1.2.1.1.symm
  have F0 : zF [2, 3, 5, 12, 17] [18, 19, 20, 28] σ σ τ τ := zF_r
  rw [p0]
  refine sv_rd (j := 0) h (fun σ1 τ1 h1 G1 w0 y1 => ?_) (fun σ1 τ1 q1 q2 => ⟨q1, zF_t F0 (zF_m q2 (by decide) (by decide))⟩)
  have F1 : zF [2, 3, 5, 12, 17] [18, 19, 20, 28] σ σ1 τ τ1 := zF_t F0 (zF_m G1 (by decide) (by decide))
  have p1 : τ1 20 18 = v1 := by rw [G1.2.1 20 (by decide)]; exact p0
  have z1 : τ1 20 1 = v2 := by rw [G1.2.1 20 (by decide)]; exact z0
  have A1 : σ1 14 4 = a1 := by rw [G1.1 14 (by decide)]; exact ha
  have D1 : zd_D (σ1 15) τ1 1 ss := zd_F hD G1.1 G1.2.1 (by decide) (by decide)
  have k1 : σ1 15 3 = 4 := by rw [G1.1 15 (by decide)]; exact h4
  rw [p1]
  refine sv_rd (j := 1) h1 (fun σ2 τ2 h2 G2 w1 y2 => ?_) (fun σ1 τ1 q1 q2 => ⟨q1, zF_t F1 (zF_m q2 (by decide) (by decide))⟩)
  have F2 : zF [2, 3, 5, 12, 17] [18, 19, 20, 28] σ σ2 τ τ2 := zF_t F1 (zF_m G2 (by decide) (by decide))
  have p2 : τ2 20 18 = v1 := by rw [G2.2.1 20 (by decide)]; exact p1
  have z2 : τ2 20 1 = v2 := by rw [G2.2.1 20 (by decide)]; exact z1
  have A2 : σ2 14 4 = a1 := by rw [G2.1 14 (by decide)]; exact A1
  have D2 : zd_D (σ2 15) τ2 1 ss := zd_F D1 G2.1 G2.2.1 (by decide) (by decide)
  have k2 : σ2 15 3 = 4 := by rw [G2.1 15 (by decide)]; exact k1
  have w0 : σ2 17 0 = τ2 28 0 := by rw [(y2 0 (by decide)).1, (y2 0 (by decide)).2]; exact w0
  rw [p2]
  refine sv_rd (j := 2) h2 (fun σ3 τ3 h3 G3 w2 y3 => ?_) (fun σ1 τ1 q1 q2 => ⟨q1, zF_t F2 (zF_m q2 (by decide) (by decide))⟩)
  have F3 : zF [2, 3, 5, 12, 17] [18, 19, 20, 28] σ σ3 τ τ3 := zF_t F2 (zF_m G3 (by decide) (by decide))
  have p3 : τ3 20 18 = v1 := by rw [G3.2.1 20 (by decide)]; exact p2
  have z3 : τ3 20 1 = v2 := by rw [G3.2.1 20 (by decide)]; exact z2
  have A3 : σ3 14 4 = a1 := by rw [G3.1 14 (by decide)]; exact A2
  have D3 : zd_D (σ3 15) τ3 1 ss := zd_F D2 G3.1 G3.2.1 (by decide) (by decide)
  have k3 : σ3 15 3 = 4 := by rw [G3.1 15 (by decide)]; exact k2
  have w0 : σ3 17 0 = τ3 28 0 := by rw [(y3 0 (by decide)).1, (y3 0 (by decide)).2]; exact w0
  have w1 : σ3 17 1 = τ3 28 1 := by rw [(y3 1 (by decide)).1, (y3 1 (by decide)).2]; exact w1
  rw [p3]
  refine sv_rd (j := 3) h3 (fun σ4 τ4 h4 G4 w3 y4 => ?_) (fun σ1 τ1 q1 q2 => ⟨q1, zF_t F3 (zF_m q2 (by decide) (by decide))⟩)
  have F4 : zF [2, 3, 5, 12, 17] [18, 19, 20, 28] σ σ4 τ τ4 := zF_t F3 (zF_m G4 (by decide) (by decide))
  have p4 : τ4 20 18 = v1 := by rw [G4.2.1 20 (by decide)]; exact p3
  have z4 : τ4 20 1 = v2 := by rw [G4.2.1 20 (by decide)]; exact z3
  have A4 : σ4 14 4 = a1 := by rw [G4.1 14 (by decide)]; exact A3
  have D4 : zd_D (σ4 15) τ4 1 ss := zd_F D3 G4.1 G4.2.1 (by decide) (by decide)
  have k4 : σ4 15 3 = 4 := by rw [G4.1 15 (by decide)]; exact k3
  have w0 : σ4 17 0 = τ4 28 0 := by rw [(y4 0 (by decide)).1, (y4 0 (by decide)).2]; exact w0
  have w1 : σ4 17 1 = τ4 28 1 := by rw [(y4 1 (by decide)).1, (y4 1 (by decide)).2]; exact w1
  have w2 : σ4 17 2 = τ4 28 2 := by rw [(y4 2 (by decide)).1, (y4 2 (by decide)).2]; exact w2
  rw [p4]
  refine sv_rd (j := 4) h4 (fun σ5 τ5 h5 G5 w4 y5 => ?_) (fun σ1 τ1 q1 q2 => ⟨q1, zF_t F4 (zF_m q2 (by decide) (by decide))⟩)
  have F5 : zF [2, 3, 5, 12, 17] [18, 19, 20, 28] σ σ5 τ τ5 := zF_t F4 (zF_m G5 (by decide) (by decide))
  have p5 : τ5 20 18 = v1 := by rw [G5.2.1 20 (by decide)]; exact p4
  have z5 : τ5 20 1 = v2 := by rw [G5.2.1 20 (by decide)]; exact z4
  have A5 : σ5 14 4 = a1 := by rw [G5.1 14 (by decide)]; exact A4
  have D5 : zd_D (σ5 15) τ5 1 ss := zd_F D4 G5.1 G5.2.1 (by decide) (by decide)
  have k5 : σ5 15 3 = 4 := by rw [G5.1 15 (by decide)]; exact k4
  have w0 : σ5 17 0 = τ5 28 0 := by rw [(y5 0 (by decide)).1, (y5 0 (by decide)).2]; exact w0
  have w1 : σ5 17 1 = τ5 28 1 := by rw [(y5 1 (by decide)).1, (y5 1 (by decide)).2]; exact w1
  have w2 : σ5 17 2 = τ5 28 2 := by rw [(y5 2 (by decide)).1, (y5 2 (by decide)).2]; exact w2
  have w3 : σ5 17 3 = τ5 28 3 := by rw [(y5 3 (by decide)).1, (y5 3 (by decide)).2]; exact w3
  rw [p5]
  refine sv_rd (j := 5) h5 (fun σ6 τ6 h6 G6 w5 y6 => ?_) (fun σ1 τ1 q1 q2 => ⟨q1, zF_t F5 (zF_m q2 (by decide) (by decide))⟩)
  have F6 : zF [2, 3, 5, 12, 17] [18, 19, 20, 28] σ σ6 τ τ6 := zF_t F5 (zF_m G6 (by decide) (by decide))
  have p6 : τ6 20 18 = v1 := by rw [G6.2.1 20 (by decide)]; exact p5
  have z6 : τ6 20 1 = v2 := by rw [G6.2.1 20 (by decide)]; exact z5
  have A6 : σ6 14 4 = a1 := by rw [G6.1 14 (by decide)]; exact A5
  have D6 : zd_D (σ6 15) τ6 1 ss := zd_F D5 G6.1 G6.2.1 (by decide) (by decide)
  have k6 : σ6 15 3 = 4 := by rw [G6.1 15 (by decide)]; exact k5
  have w0 : σ6 17 0 = τ6 28 0 := by rw [(y6 0 (by decide)).1, (y6 0 (by decide)).2]; exact w0
  have w1 : σ6 17 1 = τ6 28 1 := by rw [(y6 1 (by decide)).1, (y6 1 (by decide)).2]; exact w1
  have w2 : σ6 17 2 = τ6 28 2 := by rw [(y6 2 (by decide)).1, (y6 2 (by decide)).2]; exact w2
  have w3 : σ6 17 3 = τ6 28 3 := by rw [(y6 3 (by decide)).1, (y6 3 (by decide)).2]; exact w3
  have w4 : σ6 17 4 = τ6 28 4 := by rw [(y6 4 (by decide)).1, (y6 4 (by decide)).2]; exact w4
  rw [p6, z6]
  refine zz_lr (fun u9 g9 => ?_)
  refine zz_lr (fun u10 g10 => ?_)
  subst g9 g10
  refine sv_fin h6 A6 hl D6 hs hn k6 (fun σa τa ha0 Ga => ?_)
  have Fa : zF [2, 3, 5, 12, 17] [18, 19, 20, 28] σ σa τ τa := zF_t F6 (zF_m Ga (by decide) (by decide))
  have w0 : σa 17 0 = τa 28 0 := by rw [Ga.1 17 (by decide), Ga.2.1 28 (by decide)]; exact w0
  have w1 : σa 17 1 = τa 28 1 := by rw [Ga.1 17 (by decide), Ga.2.1 28 (by decide)]; exact w1
  have w2 : σa 17 2 = τa 28 2 := by rw [Ga.1 17 (by decide), Ga.2.1 28 (by decide)]; exact w2
  have w3 : σa 17 3 = τa 28 3 := by rw [Ga.1 17 (by decide), Ga.2.1 28 (by decide)]; exact w3
  have w4 : σa 17 4 = τa 28 4 := by rw [Ga.1 17 (by decide), Ga.2.1 28 (by decide)]; exact w4
  have w5 : σa 17 5 = τa 28 5 := by rw [Ga.1 17 (by decide), Ga.2.1 28 (by decide)]; exact w5
  refine zz_b (sv_pushWord ha0) (fun _ σb0 τb0 qb0 => ?_) (fun σ1 τ1 q1 => ?_)
  case refine_2 =>
    have hw := zW_n q1.1
    simp only [xl_e, ym_push hw]
    exact ⟨q1.1, zF_t Fa (zF_m q1.2 (by decide) (by decide))⟩
  have Fb0 : zF [2, 3, 5, 12, 17] [18, 19, 20, 28] σ σb0 τ τb0 := zF_t Fa (zF_m qb0.2 (by decide) (by decide))
  have w0 : σb0 17 0 = τb0 28 0 := by rw [qb0.2.1 17 (by decide), qb0.2.2.1 28 (by decide)]; exact w0
  have w1 : σb0 17 1 = τb0 28 1 := by rw [qb0.2.1 17 (by decide), qb0.2.2.1 28 (by decide)]; exact w1
  have w2 : σb0 17 2 = τb0 28 2 := by rw [qb0.2.1 17 (by decide), qb0.2.2.1 28 (by decide)]; exact w2
  have w3 : σb0 17 3 = τb0 28 3 := by rw [qb0.2.1 17 (by decide), qb0.2.2.1 28 (by decide)]; exact w3
  have w4 : σb0 17 4 = τb0 28 4 := by rw [qb0.2.1 17 (by decide), qb0.2.2.1 28 (by decide)]; exact w4
  have w5 : σb0 17 5 = τb0 28 5 := by rw [qb0.2.1 17 (by decide), qb0.2.2.1 28 (by decide)]; exact w5
  refine zz_b (sv_pushWord qb0.1) (fun _ σb1 τb1 qb1 => ?_) (fun σ1 τ1 q1 => ?_)
  case refine_2 =>
    have hw := zW_n q1.1
    simp only [xl_e, ym_push hw]
    exact ⟨q1.1, zF_t Fb0 (zF_m q1.2 (by decide) (by decide))⟩
  have Fb1 : zF [2, 3, 5, 12, 17] [18, 19, 20, 28] σ σb1 τ τb1 := zF_t Fb0 (zF_m qb1.2 (by decide) (by decide))
  have w0 : σb1 17 0 = τb1 28 0 := by rw [qb1.2.1 17 (by decide), qb1.2.2.1 28 (by decide)]; exact w0
  have w1 : σb1 17 1 = τb1 28 1 := by rw [qb1.2.1 17 (by decide), qb1.2.2.1 28 (by decide)]; exact w1
  have w2 : σb1 17 2 = τb1 28 2 := by rw [qb1.2.1 17 (by decide), qb1.2.2.1 28 (by decide)]; exact w2
  have w3 : σb1 17 3 = τb1 28 3 := by rw [qb1.2.1 17 (by decide), qb1.2.2.1 28 (by decide)]; exact w3
  have w4 : σb1 17 4 = τb1 28 4 := by rw [qb1.2.1 17 (by decide), qb1.2.2.1 28 (by decide)]; exact w4
  have w5 : σb1 17 5 = τb1 28 5 := by rw [qb1.2.1 17 (by decide), qb1.2.2.1 28 (by decide)]; exact w5
  rw [w5]
  refine zz_b (sv_pushWord qb1.1) (fun _ σb2 τb2 qb2 => ?_) (fun σ1 τ1 q1 => ?_)
  case refine_2 =>
    have hw := zW_n q1.1
    simp only [xl_e, ym_push hw]
    exact ⟨q1.1, zF_t Fb1 (zF_m q1.2 (by decide) (by decide))⟩
  have Fb2 : zF [2, 3, 5, 12, 17] [18, 19, 20, 28] σ σb2 τ τb2 := zF_t Fb1 (zF_m qb2.2 (by decide) (by decide))
  have w0 : σb2 17 0 = τb2 28 0 := by rw [qb2.2.1 17 (by decide), qb2.2.2.1 28 (by decide)]; exact w0
  have w1 : σb2 17 1 = τb2 28 1 := by rw [qb2.2.1 17 (by decide), qb2.2.2.1 28 (by decide)]; exact w1
  have w2 : σb2 17 2 = τb2 28 2 := by rw [qb2.2.1 17 (by decide), qb2.2.2.1 28 (by decide)]; exact w2
  have w3 : σb2 17 3 = τb2 28 3 := by rw [qb2.2.1 17 (by decide), qb2.2.2.1 28 (by decide)]; exact w3
  have w4 : σb2 17 4 = τb2 28 4 := by rw [qb2.2.1 17 (by decide), qb2.2.2.1 28 (by decide)]; exact w4
  have w5 : σb2 17 5 = τb2 28 5 := by rw [qb2.2.1 17 (by decide), qb2.2.2.1 28 (by decide)]; exact w5
  rw [w4]
  refine zz_b (sv_pushWord qb2.1) (fun _ σb3 τb3 qb3 => ?_) (fun σ1 τ1 q1 => ?_)
  case refine_2 =>
    have hw := zW_n q1.1
    simp only [xl_e, ym_push hw]
    exact ⟨q1.1, zF_t Fb2 (zF_m q1.2 (by decide) (by decide))⟩
  have Fb3 : zF [2, 3, 5, 12, 17] [18, 19, 20, 28] σ σb3 τ τb3 := zF_t Fb2 (zF_m qb3.2 (by decide) (by decide))
  have w0 : σb3 17 0 = τb3 28 0 := by rw [qb3.2.1 17 (by decide), qb3.2.2.1 28 (by decide)]; exact w0
  have w1 : σb3 17 1 = τb3 28 1 := by rw [qb3.2.1 17 (by decide), qb3.2.2.1 28 (by decide)]; exact w1
  have w2 : σb3 17 2 = τb3 28 2 := by rw [qb3.2.1 17 (by decide), qb3.2.2.1 28 (by decide)]; exact w2
  have w3 : σb3 17 3 = τb3 28 3 := by rw [qb3.2.1 17 (by decide), qb3.2.2.1 28 (by decide)]; exact w3
  have w4 : σb3 17 4 = τb3 28 4 := by rw [qb3.2.1 17 (by decide), qb3.2.2.1 28 (by decide)]; exact w4
  have w5 : σb3 17 5 = τb3 28 5 := by rw [qb3.2.1 17 (by decide), qb3.2.2.1 28 (by decide)]; exact w5
  rw [w3]
  refine zz_b (sv_pushWord qb3.1) (fun _ σb4 τb4 qb4 => ?_) (fun σ1 τ1 q1 => ?_)
  case refine_2 =>
    have hw := zW_n q1.1
    simp only [xl_e, ym_push hw]
    exact ⟨q1.1, zF_t Fb3 (zF_m q1.2 (by decide) (by decide))⟩
  have Fb4 : zF [2, 3, 5, 12, 17] [18, 19, 20, 28] σ σb4 τ τb4 := zF_t Fb3 (zF_m qb4.2 (by decide) (by decide))
  have w0 : σb4 17 0 = τb4 28 0 := by rw [qb4.2.1 17 (by decide), qb4.2.2.1 28 (by decide)]; exact w0
  have w1 : σb4 17 1 = τb4 28 1 := by rw [qb4.2.1 17 (by decide), qb4.2.2.1 28 (by decide)]; exact w1
  have w2 : σb4 17 2 = τb4 28 2 := by rw [qb4.2.1 17 (by decide), qb4.2.2.1 28 (by decide)]; exact w2
  have w3 : σb4 17 3 = τb4 28 3 := by rw [qb4.2.1 17 (by decide), qb4.2.2.1 28 (by decide)]; exact w3
  have w4 : σb4 17 4 = τb4 28 4 := by rw [qb4.2.1 17 (by decide), qb4.2.2.1 28 (by decide)]; exact w4
  have w5 : σb4 17 5 = τb4 28 5 := by rw [qb4.2.1 17 (by decide), qb4.2.2.1 28 (by decide)]; exact w5
  rw [w2]
  refine zz_b (sv_pushWord qb4.1) (fun _ σb5 τb5 qb5 => ?_) (fun σ1 τ1 q1 => ?_)
  case refine_2 =>
    have hw := zW_n q1.1
    simp only [xl_e, ym_push hw]
    exact ⟨q1.1, zF_t Fb4 (zF_m q1.2 (by decide) (by decide))⟩
  have Fb5 : zF [2, 3, 5, 12, 17] [18, 19, 20, 28] σ σb5 τ τb5 := zF_t Fb4 (zF_m qb5.2 (by decide) (by decide))
  have w0 : σb5 17 0 = τb5 28 0 := by rw [qb5.2.1 17 (by decide), qb5.2.2.1 28 (by decide)]; exact w0
  have w1 : σb5 17 1 = τb5 28 1 := by rw [qb5.2.1 17 (by decide), qb5.2.2.1 28 (by decide)]; exact w1
  have w2 : σb5 17 2 = τb5 28 2 := by rw [qb5.2.1 17 (by decide), qb5.2.2.1 28 (by decide)]; exact w2
  have w3 : σb5 17 3 = τb5 28 3 := by rw [qb5.2.1 17 (by decide), qb5.2.2.1 28 (by decide)]; exact w3
  have w4 : σb5 17 4 = τb5 28 4 := by rw [qb5.2.1 17 (by decide), qb5.2.2.1 28 (by decide)]; exact w4
  have w5 : σb5 17 5 = τb5 28 5 := by rw [qb5.2.1 17 (by decide), qb5.2.2.1 28 (by decide)]; exact w5
  rw [w1]
  refine zz_b (sv_pushWord qb5.1) (fun _ σb6 τb6 qb6 => ?_) (fun σ1 τ1 q1 => ?_)
  case refine_2 =>
    have hw := zW_n q1.1
    simp only [xl_e, ym_push hw]
    exact ⟨q1.1, zF_t Fb5 (zF_m q1.2 (by decide) (by decide))⟩
  have Fb6 : zF [2, 3, 5, 12, 17] [18, 19, 20, 28] σ σb6 τ τb6 := zF_t Fb5 (zF_m qb6.2 (by decide) (by decide))
  have w0 : σb6 17 0 = τb6 28 0 := by rw [qb6.2.1 17 (by decide), qb6.2.2.1 28 (by decide)]; exact w0
  have w1 : σb6 17 1 = τb6 28 1 := by rw [qb6.2.1 17 (by decide), qb6.2.2.1 28 (by decide)]; exact w1
  have w2 : σb6 17 2 = τb6 28 2 := by rw [qb6.2.1 17 (by decide), qb6.2.2.1 28 (by decide)]; exact w2
  have w3 : σb6 17 3 = τb6 28 3 := by rw [qb6.2.1 17 (by decide), qb6.2.2.1 28 (by decide)]; exact w3
  have w4 : σb6 17 4 = τb6 28 4 := by rw [qb6.2.1 17 (by decide), qb6.2.2.1 28 (by decide)]; exact w4
  have w5 : σb6 17 5 = τb6 28 5 := by rw [qb6.2.1 17 (by decide), qb6.2.2.1 28 (by decide)]; exact w5
  rw [w0]
  refine zz_b (sv_pushWord qb6.1) (fun _ σb7 τb7 qb7 => ?_) (fun σ1 τ1 q1 => ?_)
  case refine_2 =>
    exact ⟨q1.1, zF_t Fb6 (zF_m q1.2 (by decide) (by decide))⟩
  have Fb7 : zF [2, 3, 5, 12, 17] [18, 19, 20, 28] σ σb7 τ τb7 := zF_t Fb6 (zF_m qb7.2 (by decide) (by decide))
  have w0 : σb7 17 0 = τb7 28 0 := by rw [qb7.2.1 17 (by decide), qb7.2.2.1 28 (by decide)]; exact w0
  have w1 : σb7 17 1 = τb7 28 1 := by rw [qb7.2.1 17 (by decide), qb7.2.2.1 28 (by decide)]; exact w1
  have w2 : σb7 17 2 = τb7 28 2 := by rw [qb7.2.1 17 (by decide), qb7.2.2.1 28 (by decide)]; exact w2
  have w3 : σb7 17 3 = τb7 28 3 := by rw [qb7.2.1 17 (by decide), qb7.2.2.1 28 (by decide)]; exact w3
  have w4 : σb7 17 4 = τb7 28 4 := by rw [qb7.2.1 17 (by decide), qb7.2.2.1 28 (by decide)]; exact w4
  have w5 : σb7 17 5 = τb7 28 5 := by rw [qb7.2.1 17 (by decide), qb7.2.2.1 28 (by decide)]; exact w5
  exact zz_s ⟨qb7.1, Fb7⟩
theorem sv_ch7 {a1 sp ss : Int32} (h : zQ zs fc fr wt σ τ) (ha : σ 14 4 = a1) (hl : jr_R a1 3) (hD : zd_D (σ 15) τ 1 ss) (hs : jr_R ss 65535) (hn : ¬ ss < 4) (h4 : σ 15 3 = 4) : zz_Z (fr_changeStack_7 sp σ) (fk_7 a1 sp ss τ) (fun _ σ' τ' => zQ zs fc fr wt σ' τ' ∧ zF [2, 3, 5, 12, 17] [18, 19, 20, 28] σ σ' τ τ') (fun σ' τ' => zW zs σ' τ' ∧ zF [2, 3, 5, 12, 17] [18, 19, 20, 28] σ σ' τ τ') := by
  unfold fr_changeStack_7 fk_7
  refine zz_lc (fun v1 e1 => ?_)
  refine zz_lc (fun v2 e2 => ?_)
  have p0 : τ 20 18 = v1 := by rw [e1]; exact h.2.1.2.2.2.2.1.symm
  have z0 : τ 20 1 = v2 := by rw [e2]; exact h.2.1.2.1.1.symm
  have F0 : zF [2, 3, 5, 12, 17] [18, 19, 20, 28] σ σ τ τ := zF_r
  rw [p0]
  refine sv_rd (j := 0) h (fun σ1 τ1 h1 G1 w0 y1 => ?_) (fun σ1 τ1 q1 q2 => ⟨q1, zF_t F0 (zF_m q2 (by decide) (by decide))⟩)
  have F1 : zF [2, 3, 5, 12, 17] [18, 19, 20, 28] σ σ1 τ τ1 := zF_t F0 (zF_m G1 (by decide) (by decide))
  have p1 : τ1 20 18 = v1 := by rw [G1.2.1 20 (by decide)]; exact p0
  have z1 : τ1 20 1 = v2 := by rw [G1.2.1 20 (by decide)]; exact z0
  have A1 : σ1 14 4 = a1 := by rw [G1.1 14 (by decide)]; exact ha
  have D1 : zd_D (σ1 15) τ1 1 ss := zd_F hD G1.1 G1.2.1 (by decide) (by decide)
  have k1 : σ1 15 3 = 4 := by rw [G1.1 15 (by decide)]; exact h4
  rw [p1]
  refine sv_rd (j := 1) h1 (fun σ2 τ2 h2 G2 w1 y2 => ?_) (fun σ1 τ1 q1 q2 => ⟨q1, zF_t F1 (zF_m q2 (by decide) (by decide))⟩)
  have F2 : zF [2, 3, 5, 12, 17] [18, 19, 20, 28] σ σ2 τ τ2 := zF_t F1 (zF_m G2 (by decide) (by decide))
  have p2 : τ2 20 18 = v1 := by rw [G2.2.1 20 (by decide)]; exact p1
  have z2 : τ2 20 1 = v2 := by rw [G2.2.1 20 (by decide)]; exact z1
  have A2 : σ2 14 4 = a1 := by rw [G2.1 14 (by decide)]; exact A1
  have D2 : zd_D (σ2 15) τ2 1 ss := zd_F D1 G2.1 G2.2.1 (by decide) (by decide)
  have k2 : σ2 15 3 = 4 := by rw [G2.1 15 (by decide)]; exact k1
  have w0 : σ2 17 0 = τ2 28 0 := by rw [(y2 0 (by decide)).1, (y2 0 (by decide)).2]; exact w0
  rw [p2]
  refine sv_rd (j := 2) h2 (fun σ3 τ3 h3 G3 w2 y3 => ?_) (fun σ1 τ1 q1 q2 => ⟨q1, zF_t F2 (zF_m q2 (by decide) (by decide))⟩)
  have F3 : zF [2, 3, 5, 12, 17] [18, 19, 20, 28] σ σ3 τ τ3 := zF_t F2 (zF_m G3 (by decide) (by decide))
  have p3 : τ3 20 18 = v1 := by rw [G3.2.1 20 (by decide)]; exact p2
  have z3 : τ3 20 1 = v2 := by rw [G3.2.1 20 (by decide)]; exact z2
  have A3 : σ3 14 4 = a1 := by rw [G3.1 14 (by decide)]; exact A2
  have D3 : zd_D (σ3 15) τ3 1 ss := zd_F D2 G3.1 G3.2.1 (by decide) (by decide)
  have k3 : σ3 15 3 = 4 := by rw [G3.1 15 (by decide)]; exact k2
  have w0 : σ3 17 0 = τ3 28 0 := by rw [(y3 0 (by decide)).1, (y3 0 (by decide)).2]; exact w0
  have w1 : σ3 17 1 = τ3 28 1 := by rw [(y3 1 (by decide)).1, (y3 1 (by decide)).2]; exact w1
  rw [p3]
  refine sv_rd (j := 3) h3 (fun σ4 τ4 h4 G4 w3 y4 => ?_) (fun σ1 τ1 q1 q2 => ⟨q1, zF_t F3 (zF_m q2 (by decide) (by decide))⟩)
  have F4 : zF [2, 3, 5, 12, 17] [18, 19, 20, 28] σ σ4 τ τ4 := zF_t F3 (zF_m G4 (by decide) (by decide))
  have p4 : τ4 20 18 = v1 := by rw [G4.2.1 20 (by decide)]; exact p3
  have z4 : τ4 20 1 = v2 := by rw [G4.2.1 20 (by decide)]; exact z3
  have A4 : σ4 14 4 = a1 := by rw [G4.1 14 (by decide)]; exact A3
  have D4 : zd_D (σ4 15) τ4 1 ss := zd_F D3 G4.1 G4.2.1 (by decide) (by decide)
  have k4 : σ4 15 3 = 4 := by rw [G4.1 15 (by decide)]; exact k3
  have w0 : σ4 17 0 = τ4 28 0 := by rw [(y4 0 (by decide)).1, (y4 0 (by decide)).2]; exact w0
  have w1 : σ4 17 1 = τ4 28 1 := by rw [(y4 1 (by decide)).1, (y4 1 (by decide)).2]; exact w1
  have w2 : σ4 17 2 = τ4 28 2 := by rw [(y4 2 (by decide)).1, (y4 2 (by decide)).2]; exact w2
  rw [p4]
  refine sv_rd (j := 4) h4 (fun σ5 τ5 h5 G5 w4 y5 => ?_) (fun σ1 τ1 q1 q2 => ⟨q1, zF_t F4 (zF_m q2 (by decide) (by decide))⟩)
  have F5 : zF [2, 3, 5, 12, 17] [18, 19, 20, 28] σ σ5 τ τ5 := zF_t F4 (zF_m G5 (by decide) (by decide))
  have p5 : τ5 20 18 = v1 := by rw [G5.2.1 20 (by decide)]; exact p4
  have z5 : τ5 20 1 = v2 := by rw [G5.2.1 20 (by decide)]; exact z4
  have A5 : σ5 14 4 = a1 := by rw [G5.1 14 (by decide)]; exact A4
  have D5 : zd_D (σ5 15) τ5 1 ss := zd_F D4 G5.1 G5.2.1 (by decide) (by decide)
  have k5 : σ5 15 3 = 4 := by rw [G5.1 15 (by decide)]; exact k4
  have w0 : σ5 17 0 = τ5 28 0 := by rw [(y5 0 (by decide)).1, (y5 0 (by decide)).2]; exact w0
  have w1 : σ5 17 1 = τ5 28 1 := by rw [(y5 1 (by decide)).1, (y5 1 (by decide)).2]; exact w1
  have w2 : σ5 17 2 = τ5 28 2 := by rw [(y5 2 (by decide)).1, (y5 2 (by decide)).2]; exact w2
  have w3 : σ5 17 3 = τ5 28 3 := by rw [(y5 3 (by decide)).1, (y5 3 (by decide)).2]; exact w3
  rw [p5]
  refine sv_rd (j := 5) h5 (fun σ6 τ6 h6 G6 w5 y6 => ?_) (fun σ1 τ1 q1 q2 => ⟨q1, zF_t F5 (zF_m q2 (by decide) (by decide))⟩)
  have F6 : zF [2, 3, 5, 12, 17] [18, 19, 20, 28] σ σ6 τ τ6 := zF_t F5 (zF_m G6 (by decide) (by decide))
  have p6 : τ6 20 18 = v1 := by rw [G6.2.1 20 (by decide)]; exact p5
  have z6 : τ6 20 1 = v2 := by rw [G6.2.1 20 (by decide)]; exact z5
  have A6 : σ6 14 4 = a1 := by rw [G6.1 14 (by decide)]; exact A5
  have D6 : zd_D (σ6 15) τ6 1 ss := zd_F D5 G6.1 G6.2.1 (by decide) (by decide)
  have k6 : σ6 15 3 = 4 := by rw [G6.1 15 (by decide)]; exact k5
  have w0 : σ6 17 0 = τ6 28 0 := by rw [(y6 0 (by decide)).1, (y6 0 (by decide)).2]; exact w0
  have w1 : σ6 17 1 = τ6 28 1 := by rw [(y6 1 (by decide)).1, (y6 1 (by decide)).2]; exact w1
  have w2 : σ6 17 2 = τ6 28 2 := by rw [(y6 2 (by decide)).1, (y6 2 (by decide)).2]; exact w2
  have w3 : σ6 17 3 = τ6 28 3 := by rw [(y6 3 (by decide)).1, (y6 3 (by decide)).2]; exact w3
  have w4 : σ6 17 4 = τ6 28 4 := by rw [(y6 4 (by decide)).1, (y6 4 (by decide)).2]; exact w4
  rw [p6]
  refine sv_rd (j := 6) h6 (fun σ7 τ7 h7 G7 w6 y7 => ?_) (fun σ1 τ1 q1 q2 => ⟨q1, zF_t F6 (zF_m q2 (by decide) (by decide))⟩)
  have F7 : zF [2, 3, 5, 12, 17] [18, 19, 20, 28] σ σ7 τ τ7 := zF_t F6 (zF_m G7 (by decide) (by decide))
  have p7 : τ7 20 18 = v1 := by rw [G7.2.1 20 (by decide)]; exact p6
  have z7 : τ7 20 1 = v2 := by rw [G7.2.1 20 (by decide)]; exact z6
  have A7 : σ7 14 4 = a1 := by rw [G7.1 14 (by decide)]; exact A6
  have D7 : zd_D (σ7 15) τ7 1 ss := zd_F D6 G7.1 G7.2.1 (by decide) (by decide)
  have k7 : σ7 15 3 = 4 := by rw [G7.1 15 (by decide)]; exact k6
  have w0 : σ7 17 0 = τ7 28 0 := by rw [(y7 0 (by decide)).1, (y7 0 (by decide)).2]; exact w0
  have w1 : σ7 17 1 = τ7 28 1 := by rw [(y7 1 (by decide)).1, (y7 1 (by decide)).2]; exact w1
  have w2 : σ7 17 2 = τ7 28 2 := by rw [(y7 2 (by decide)).1, (y7 2 (by decide)).2]; exact w2
  have w3 : σ7 17 3 = τ7 28 3 := by rw [(y7 3 (by decide)).1, (y7 3 (by decide)).2]; exact w3
  have w4 : σ7 17 4 = τ7 28 4 := by rw [(y7 4 (by decide)).1, (y7 4 (by decide)).2]; exact w4
  have w5 : σ7 17 5 = τ7 28 5 := by rw [(y7 5 (by decide)).1, (y7 5 (by decide)).2]; exact w5
  rw [p7, z7]
  refine zz_lr (fun u9 g9 => ?_)
  refine zz_lr (fun u10 g10 => ?_)
  subst g9 g10
  refine sv_fin h7 A7 hl D7 hs hn k7 (fun σa τa ha0 Ga => ?_)
  have Fa : zF [2, 3, 5, 12, 17] [18, 19, 20, 28] σ σa τ τa := zF_t F7 (zF_m Ga (by decide) (by decide))
  have w0 : σa 17 0 = τa 28 0 := by rw [Ga.1 17 (by decide), Ga.2.1 28 (by decide)]; exact w0
  have w1 : σa 17 1 = τa 28 1 := by rw [Ga.1 17 (by decide), Ga.2.1 28 (by decide)]; exact w1
  have w2 : σa 17 2 = τa 28 2 := by rw [Ga.1 17 (by decide), Ga.2.1 28 (by decide)]; exact w2
  have w3 : σa 17 3 = τa 28 3 := by rw [Ga.1 17 (by decide), Ga.2.1 28 (by decide)]; exact w3
  have w4 : σa 17 4 = τa 28 4 := by rw [Ga.1 17 (by decide), Ga.2.1 28 (by decide)]; exact w4
  have w5 : σa 17 5 = τa 28 5 := by rw [Ga.1 17 (by decide), Ga.2.1 28 (by decide)]; exact w5
  have w6 : σa 17 6 = τa 28 6 := by rw [Ga.1 17 (by decide), Ga.2.1 28 (by decide)]; exact w6
  refine zz_b (sv_pushWord ha0) (fun _ σb0 τb0 qb0 => ?_) (fun σ1 τ1 q1 => ?_)
  case refine_2 =>
    have hw := zW_n q1.1
    simp only [xl_e, ym_push hw]
    exact ⟨q1.1, zF_t Fa (zF_m q1.2 (by decide) (by decide))⟩
  have Fb0 : zF [2, 3, 5, 12, 17] [18, 19, 20, 28] σ σb0 τ τb0 := zF_t Fa (zF_m qb0.2 (by decide) (by decide))
  have w0 : σb0 17 0 = τb0 28 0 := by rw [qb0.2.1 17 (by decide), qb0.2.2.1 28 (by decide)]; exact w0
  have w1 : σb0 17 1 = τb0 28 1 := by rw [qb0.2.1 17 (by decide), qb0.2.2.1 28 (by decide)]; exact w1
  have w2 : σb0 17 2 = τb0 28 2 := by rw [qb0.2.1 17 (by decide), qb0.2.2.1 28 (by decide)]; exact w2
  have w3 : σb0 17 3 = τb0 28 3 := by rw [qb0.2.1 17 (by decide), qb0.2.2.1 28 (by decide)]; exact w3
  have w4 : σb0 17 4 = τb0 28 4 := by rw [qb0.2.1 17 (by decide), qb0.2.2.1 28 (by decide)]; exact w4
  have w5 : σb0 17 5 = τb0 28 5 := by rw [qb0.2.1 17 (by decide), qb0.2.2.1 28 (by decide)]; exact w5
  have w6 : σb0 17 6 = τb0 28 6 := by rw [qb0.2.1 17 (by decide), qb0.2.2.1 28 (by decide)]; exact w6
  refine zz_b (sv_pushWord qb0.1) (fun _ σb1 τb1 qb1 => ?_) (fun σ1 τ1 q1 => ?_)
  case refine_2 =>
    have hw := zW_n q1.1
    simp only [xl_e, ym_push hw]
    exact ⟨q1.1, zF_t Fb0 (zF_m q1.2 (by decide) (by decide))⟩
  have Fb1 : zF [2, 3, 5, 12, 17] [18, 19, 20, 28] σ σb1 τ τb1 := zF_t Fb0 (zF_m qb1.2 (by decide) (by decide))
  have w0 : σb1 17 0 = τb1 28 0 := by rw [qb1.2.1 17 (by decide), qb1.2.2.1 28 (by decide)]; exact w0
  have w1 : σb1 17 1 = τb1 28 1 := by rw [qb1.2.1 17 (by decide), qb1.2.2.1 28 (by decide)]; exact w1
  have w2 : σb1 17 2 = τb1 28 2 := by rw [qb1.2.1 17 (by decide), qb1.2.2.1 28 (by decide)]; exact w2
  have w3 : σb1 17 3 = τb1 28 3 := by rw [qb1.2.1 17 (by decide), qb1.2.2.1 28 (by decide)]; exact w3
  have w4 : σb1 17 4 = τb1 28 4 := by rw [qb1.2.1 17 (by decide), qb1.2.2.1 28 (by decide)]; exact w4
  have w5 : σb1 17 5 = τb1 28 5 := by rw [qb1.2.1 17 (by decide), qb1.2.2.1 28 (by decide)]; exact w5
  have w6 : σb1 17 6 = τb1 28 6 := by rw [qb1.2.1 17 (by decide), qb1.2.2.1 28 (by decide)]; exact w6
  rw [w6]
  refine zz_b (sv_pushWord qb1.1) (fun _ σb2 τb2 qb2 => ?_) (fun σ1 τ1 q1 => ?_)
  case refine_2 =>
    have hw := zW_n q1.1
    simp only [xl_e, ym_push hw]
    exact ⟨q1.1, zF_t Fb1 (zF_m q1.2 (by decide) (by decide))⟩
  have Fb2 : zF [2, 3, 5, 12, 17] [18, 19, 20, 28] σ σb2 τ τb2 := zF_t Fb1 (zF_m qb2.2 (by decide) (by decide))
  have w0 : σb2 17 0 = τb2 28 0 := by rw [qb2.2.1 17 (by decide), qb2.2.2.1 28 (by decide)]; exact w0
  have w1 : σb2 17 1 = τb2 28 1 := by rw [qb2.2.1 17 (by decide), qb2.2.2.1 28 (by decide)]; exact w1
  have w2 : σb2 17 2 = τb2 28 2 := by rw [qb2.2.1 17 (by decide), qb2.2.2.1 28 (by decide)]; exact w2
  have w3 : σb2 17 3 = τb2 28 3 := by rw [qb2.2.1 17 (by decide), qb2.2.2.1 28 (by decide)]; exact w3
  have w4 : σb2 17 4 = τb2 28 4 := by rw [qb2.2.1 17 (by decide), qb2.2.2.1 28 (by decide)]; exact w4
  have w5 : σb2 17 5 = τb2 28 5 := by rw [qb2.2.1 17 (by decide), qb2.2.2.1 28 (by decide)]; exact w5
  have w6 : σb2 17 6 = τb2 28 6 := by rw [qb2.2.1 17 (by decide), qb2.2.2.1 28 (by decide)]; exact w6
  rw [w5]
  refine zz_b (sv_pushWord qb2.1) (fun _ σb3 τb3 qb3 => ?_) (fun σ1 τ1 q1 => ?_)
  case refine_2 =>
    have hw := zW_n q1.1
    simp only [xl_e, ym_push hw]
    exact ⟨q1.1, zF_t Fb2 (zF_m q1.2 (by decide) (by decide))⟩
  have Fb3 : zF [2, 3, 5, 12, 17] [18, 19, 20, 28] σ σb3 τ τb3 := zF_t Fb2 (zF_m qb3.2 (by decide) (by decide))
  have w0 : σb3 17 0 = τb3 28 0 := by rw [qb3.2.1 17 (by decide), qb3.2.2.1 28 (by decide)]; exact w0
  have w1 : σb3 17 1 = τb3 28 1 := by rw [qb3.2.1 17 (by decide), qb3.2.2.1 28 (by decide)]; exact w1
  have w2 : σb3 17 2 = τb3 28 2 := by rw [qb3.2.1 17 (by decide), qb3.2.2.1 28 (by decide)]; exact w2
  have w3 : σb3 17 3 = τb3 28 3 := by rw [qb3.2.1 17 (by decide), qb3.2.2.1 28 (by decide)]; exact w3
  have w4 : σb3 17 4 = τb3 28 4 := by rw [qb3.2.1 17 (by decide), qb3.2.2.1 28 (by decide)]; exact w4
  have w5 : σb3 17 5 = τb3 28 5 := by rw [qb3.2.1 17 (by decide), qb3.2.2.1 28 (by decide)]; exact w5
  have w6 : σb3 17 6 = τb3 28 6 := by rw [qb3.2.1 17 (by decide), qb3.2.2.1 28 (by decide)]; exact w6
  rw [w4]
  refine zz_b (sv_pushWord qb3.1) (fun _ σb4 τb4 qb4 => ?_) (fun σ1 τ1 q1 => ?_)
  case refine_2 =>
    have hw := zW_n q1.1
    simp only [xl_e, ym_push hw]
    exact ⟨q1.1, zF_t Fb3 (zF_m q1.2 (by decide) (by decide))⟩
  have Fb4 : zF [2, 3, 5, 12, 17] [18, 19, 20, 28] σ σb4 τ τb4 := zF_t Fb3 (zF_m qb4.2 (by decide) (by decide))
  have w0 : σb4 17 0 = τb4 28 0 := by rw [qb4.2.1 17 (by decide), qb4.2.2.1 28 (by decide)]; exact w0
  have w1 : σb4 17 1 = τb4 28 1 := by rw [qb4.2.1 17 (by decide), qb4.2.2.1 28 (by decide)]; exact w1
  have w2 : σb4 17 2 = τb4 28 2 := by rw [qb4.2.1 17 (by decide), qb4.2.2.1 28 (by decide)]; exact w2
  have w3 : σb4 17 3 = τb4 28 3 := by rw [qb4.2.1 17 (by decide), qb4.2.2.1 28 (by decide)]; exact w3
  have w4 : σb4 17 4 = τb4 28 4 := by rw [qb4.2.1 17 (by decide), qb4.2.2.1 28 (by decide)]; exact w4
  have w5 : σb4 17 5 = τb4 28 5 := by rw [qb4.2.1 17 (by decide), qb4.2.2.1 28 (by decide)]; exact w5
  have w6 : σb4 17 6 = τb4 28 6 := by rw [qb4.2.1 17 (by decide), qb4.2.2.1 28 (by decide)]; exact w6
  rw [w3]
  refine zz_b (sv_pushWord qb4.1) (fun _ σb5 τb5 qb5 => ?_) (fun σ1 τ1 q1 => ?_)
  case refine_2 =>
    have hw := zW_n q1.1
    simp only [xl_e, ym_push hw]
    exact ⟨q1.1, zF_t Fb4 (zF_m q1.2 (by decide) (by decide))⟩
  have Fb5 : zF [2, 3, 5, 12, 17] [18, 19, 20, 28] σ σb5 τ τb5 := zF_t Fb4 (zF_m qb5.2 (by decide) (by decide))
  have w0 : σb5 17 0 = τb5 28 0 := by rw [qb5.2.1 17 (by decide), qb5.2.2.1 28 (by decide)]; exact w0
  have w1 : σb5 17 1 = τb5 28 1 := by rw [qb5.2.1 17 (by decide), qb5.2.2.1 28 (by decide)]; exact w1
  have w2 : σb5 17 2 = τb5 28 2 := by rw [qb5.2.1 17 (by decide), qb5.2.2.1 28 (by decide)]; exact w2
  have w3 : σb5 17 3 = τb5 28 3 := by rw [qb5.2.1 17 (by decide), qb5.2.2.1 28 (by decide)]; exact w3
  have w4 : σb5 17 4 = τb5 28 4 := by rw [qb5.2.1 17 (by decide), qb5.2.2.1 28 (by decide)]; exact w4
  have w5 : σb5 17 5 = τb5 28 5 := by rw [qb5.2.1 17 (by decide), qb5.2.2.1 28 (by decide)]; exact w5
  have w6 : σb5 17 6 = τb5 28 6 := by rw [qb5.2.1 17 (by decide), qb5.2.2.1 28 (by decide)]; exact w6
  rw [w2]
  refine zz_b (sv_pushWord qb5.1) (fun _ σb6 τb6 qb6 => ?_) (fun σ1 τ1 q1 => ?_)
  case refine_2 =>
    have hw := zW_n q1.1
    simp only [xl_e, ym_push hw]
    exact ⟨q1.1, zF_t Fb5 (zF_m q1.2 (by decide) (by decide))⟩
  have Fb6 : zF [2, 3, 5, 12, 17] [18, 19, 20, 28] σ σb6 τ τb6 := zF_t Fb5 (zF_m qb6.2 (by decide) (by decide))
  have w0 : σb6 17 0 = τb6 28 0 := by rw [qb6.2.1 17 (by decide), qb6.2.2.1 28 (by decide)]; exact w0
  have w1 : σb6 17 1 = τb6 28 1 := by rw [qb6.2.1 17 (by decide), qb6.2.2.1 28 (by decide)]; exact w1
  have w2 : σb6 17 2 = τb6 28 2 := by rw [qb6.2.1 17 (by decide), qb6.2.2.1 28 (by decide)]; exact w2
  have w3 : σb6 17 3 = τb6 28 3 := by rw [qb6.2.1 17 (by decide), qb6.2.2.1 28 (by decide)]; exact w3
  have w4 : σb6 17 4 = τb6 28 4 := by rw [qb6.2.1 17 (by decide), qb6.2.2.1 28 (by decide)]; exact w4
  have w5 : σb6 17 5 = τb6 28 5 := by rw [qb6.2.1 17 (by decide), qb6.2.2.1 28 (by decide)]; exact w5
  have w6 : σb6 17 6 = τb6 28 6 := by rw [qb6.2.1 17 (by decide), qb6.2.2.1 28 (by decide)]; exact w6
  rw [w1]
  refine zz_b (sv_pushWord qb6.1) (fun _ σb7 τb7 qb7 => ?_) (fun σ1 τ1 q1 => ?_)
  case refine_2 =>
    have hw := zW_n q1.1
    simp only [xl_e, ym_push hw]
    exact ⟨q1.1, zF_t Fb6 (zF_m q1.2 (by decide) (by decide))⟩
  have Fb7 : zF [2, 3, 5, 12, 17] [18, 19, 20, 28] σ σb7 τ τb7 := zF_t Fb6 (zF_m qb7.2 (by decide) (by decide))
  have w0 : σb7 17 0 = τb7 28 0 := by rw [qb7.2.1 17 (by decide), qb7.2.2.1 28 (by decide)]; exact w0
  have w1 : σb7 17 1 = τb7 28 1 := by rw [qb7.2.1 17 (by decide), qb7.2.2.1 28 (by decide)]; exact w1
  have w2 : σb7 17 2 = τb7 28 2 := by rw [qb7.2.1 17 (by decide), qb7.2.2.1 28 (by decide)]; exact w2
  have w3 : σb7 17 3 = τb7 28 3 := by rw [qb7.2.1 17 (by decide), qb7.2.2.1 28 (by decide)]; exact w3
  have w4 : σb7 17 4 = τb7 28 4 := by rw [qb7.2.1 17 (by decide), qb7.2.2.1 28 (by decide)]; exact w4
  have w5 : σb7 17 5 = τb7 28 5 := by rw [qb7.2.1 17 (by decide), qb7.2.2.1 28 (by decide)]; exact w5
  have w6 : σb7 17 6 = τb7 28 6 := by rw [qb7.2.1 17 (by decide), qb7.2.2.1 28 (by decide)]; exact w6
  rw [w0]
  refine zz_b (sv_pushWord qb7.1) (fun _ σb8 τb8 qb8 => ?_) (fun σ1 τ1 q1 => ?_)
  case refine_2 =>
    exact ⟨q1.1, zF_t Fb7 (zF_m q1.2 (by decide) (by decide))⟩
  have Fb8 : zF [2, 3, 5, 12, 17] [18, 19, 20, 28] σ σb8 τ τb8 := zF_t Fb7 (zF_m qb8.2 (by decide) (by decide))
  have w0 : σb8 17 0 = τb8 28 0 := by rw [qb8.2.1 17 (by decide), qb8.2.2.1 28 (by decide)]; exact w0
  have w1 : σb8 17 1 = τb8 28 1 := by rw [qb8.2.1 17 (by decide), qb8.2.2.1 28 (by decide)]; exact w1
  have w2 : σb8 17 2 = τb8 28 2 := by rw [qb8.2.1 17 (by decide), qb8.2.2.1 28 (by decide)]; exact w2
  have w3 : σb8 17 3 = τb8 28 3 := by rw [qb8.2.1 17 (by decide), qb8.2.2.1 28 (by decide)]; exact w3
  have w4 : σb8 17 4 = τb8 28 4 := by rw [qb8.2.1 17 (by decide), qb8.2.2.1 28 (by decide)]; exact w4
  have w5 : σb8 17 5 = τb8 28 5 := by rw [qb8.2.1 17 (by decide), qb8.2.2.1 28 (by decide)]; exact w5
  have w6 : σb8 17 6 = τb8 28 6 := by rw [qb8.2.1 17 (by decide), qb8.2.2.1 28 (by decide)]; exact w6
  exact zz_s ⟨qb8.1, Fb8⟩
end ZV
