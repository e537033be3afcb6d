/-! A task is switched. -/
variable {zs : Int32}
section ZR
variable {fc : Int32 × Int32} {fr wt : Int32} {σ τ : xs_S}
theorem sv_marks {sel way bs : Int32} {α : Type} {Φ : α → xs_S → xs_S → Prop} {Ψ : xs_S → xs_S → Prop} {f : Unit → xs_S → xp_P α} (h : zQ zs fc fr wt σ τ) (hs : jr_R sel 65535) (h0 : σ 13 0 = sel) (h1 : σ 13 1 = bs) (hw : way = 0 ∨ way = 1 ∨ way = 2) (k1 : ∀ σ1 τ1, zQ zs fc fr wt σ1 τ1 → zF [2, 12] [18, 19] σ σ1 τ τ1 → zz_Z (f () σ1) (tw_u sel way bs τ1) Φ Ψ) (k2 : ∀ σ1 τ1, zW zs σ1 τ1 → zF [2, 12] [18, 19] σ σ1 τ τ1 → Ψ σ1 τ1) : zz_Z (xp_b (fr_markTasks way σ) f) (tw_m sel way bs τ) Φ Ψ := by
  have e01 : ¬ (0 : Int32) = 1 := by decide
  have e02 : ¬ (0 : Int32) = 2 := by decide
  have e12 : ¬ (1 : Int32) = 2 := by decide
  have e21 : ¬ (2 : Int32) = 1 := by decide
  have ht : σ 3 7 = τ 20 22 := h.2.1.2.2.2.2.2.2.2.1.1
  have jt : jr_R (τ 20 22) 65535 := ht ▸ h.2.1.2.2.2.2.2.2.2.1.2
  have en : fr_isNull (τ 20 22) σ = fy_isNull (τ 20 22) τ := sl_null jt
  unfold fr_markTasks tw_m
  rw [h0, h1, ht]
  rcases hw with rfl | rfl | rfl
  · simp only [if_neg e01, if_neg e02]
    rw [en]
    have two : ∀ σ1 τ1, zQ zs fc fr wt σ1 τ1 → zF [2, 12] [18, 19] σ σ1 τ τ1 → zz_Z (xp_b (xp_b (fr_setKind (σ1 13 0) 6 σ1) (fun _ s17 => (some (), s17))) f) (xl_l (fy_setKind sel 6 τ1) (fun s21 => xl_l s21 (fun s22 => if fy_isRaised s22 = 0 then tw_u sel 0 bs s22 else s22))) Φ Ψ := by
      intro σ1 τ1 a b
      rw [xp_bb, b.1 13 (by decide), h0]
      refine zz_b (sv_setKind a hs) (fun _ σ2 τ2 q => ?_) (fun σ2 τ2 q => ?_)
      · rw [xp_s, xl_e, if_pos (zQ_n q.1)]
        exact k1 σ2 τ2 q.1 (zF_t b q.2)
      · rw [xl_e, if_neg (zW_n q.1)]
        exact k2 σ2 τ2 q.1 (zF_t b q.2)
    by_cases c : fy_isNull (τ 20 22) τ = 0
    · simp only [if_pos c, xp_bb]
      refine zz_b (sv_setKind h jt) (fun _ σ1 τ1 q => ?_) (fun σ1 τ1 q => ?_)
      · have z := two σ1 τ1 q.1 q.2
        rw [xp_bb] at z
        exact z
      · rw [ym_kind (zW_n q.1), xl_e, xl_e, if_neg (zW_n q.1)]
        exact k2 σ1 τ1 q.1 q.2
    · simp only [if_neg c]
      have z := two σ τ h zF_r
      rw [h0] at z
      rw [xl_e]
      exact z
  · simp only [if_pos rfl, if_true, if_neg e12, xp_bb]
    rw [xl_e]
    refine zz_b (sv_setKind h hs) (fun _ σ1 τ1 q => ?_) (fun σ1 τ1 q => ?_)
    · have t1 : σ1 3 7 = τ1 20 22 := q.1.2.1.2.2.2.2.2.2.2.1.1
      rw [q.2.1 13 (by decide), h1, t1]
      refine zz_b (sv_save q.1) (fun _ σ2 τ2 q2 => ?_) (fun σ2 τ2 q2 => ?_)
      · rw [xp_s, if_pos (zQ_n q2.1)]
        exact k1 σ2 τ2 q2.1 (zF_t q.2 q2.2)
      · rw [if_neg (zW_n q2.1)]
        exact k2 σ2 τ2 q2.1 (zF_t q.2 q2.2)
    · rw [ym_save (zW_n q.1), xl_e, if_neg (zW_n q.1)]
      exact k2 σ1 τ1 q.1 q.2
  · simp only [if_pos rfl, if_true, if_neg e21]
    rw [en]
    by_cases c : fy_isNull (τ 20 22) τ = 0
    · simp only [if_pos c, xp_bb]
      refine zz_b (sv_setKind h jt) (fun _ σ1 τ1 q => ?_) (fun σ1 τ1 q => ?_)
      · rw [xp_s, xl_e, xl_e, if_pos (zQ_n q.1)]
        exact k1 σ1 τ1 q.1 q.2
      · rw [xl_e, xl_e, if_neg (zW_n q.1)]
        exact k2 σ1 τ1 q.1 q.2
    · simp only [if_neg c]
      rw [xp_s, xl_e, xl_e, xl_e, if_pos (zQ_n h)]
      exact k1 σ τ h zF_r
theorem fl_x {f : Int32} (hf : jr_R f 3) : f &&& (-3) = f &&& 1 := by
  obtain ⟨n, hn, rfl⟩ := jr_nat (m := 3) (by decide) hf
  exact (fl_4 n (by omega)).2.1
theorem sv_saves {sel way bs : Int32} {α : Type} {Φ : α → xs_S → xs_S → Prop} {Ψ : xs_S → xs_S → Prop} {f : Unit → xs_S → xp_P α} (h : zQ zs fc fr wt σ τ) (hff : fc.1 = fr) (hf : jr_R fr 3) (k1 : ∀ σ1 τ1, zQ zs fc fr wt σ1 τ1 → zF [2, 12] [18, 19] σ σ1 τ τ1 → zz_Z (f () σ1) (tw_m sel way bs τ1) Φ Ψ) (k2 : ∀ σ1 τ1, zW zs σ1 τ1 → zF [2, 12] [18, 19] σ σ1 τ τ1 → Ψ σ1 τ1) : zz_Z (xp_b (fr_saveState way σ) f) (tw_8 sel way bs τ) Φ Ψ := by
  unfold fr_saveState tw_8
  simp only [xl_b, xp_bb]
  have hst : σ 3 8 = τ 20 23 := h.2.1.2.2.2.2.2.2.2.2.1
  rw [hst]
  refine zz_lc (fun v1 e1 => ?_)
  refine zz_lr (fun w1 f1 => ?_)
  obtain rfl : v1 = w1 := e1.trans f1.symm
  have F0 : zF [2, 12] [18, 19] σ σ τ τ := zF_r
  unfold tv_0
  rw [show fr_next σ = fy_nextIp τ from by rw [(zQ_nx h).1, (zQ_nx h).2]]
  refine zz_b (sv_save h) (fun _ σ1 τ1 q1 => ?_) (fun σ1 τ1 q => ?_)
  case refine_2 =>
    rw [tv_r1 (zW_n q.1)]
    exact k2 σ1 τ1 q.1 (zF_t F0 q.2)
  have F1 := zF_t F0 q1.2
  unfold tv_1
  rw [show (if way = (2 : Int32) then ((σ1 3 5) &&& (-3 : Int32)) else (σ1 3 5)) = (if way = (2 : Int32) then ((τ1 20 20) &&& (1 : Int32)) else (τ1 20 20)) from by rw [q1.1.2.2.1.1, q1.1.2.2.1.2.2, hff, (fl_x hf)]]
  refine zz_b (sv_save q1.1) (fun _ σ2 τ2 q2 => ?_) (fun σ1 τ1 q => ?_)
  case refine_2 =>
    rw [tv_r2 (zW_n q.1)]
    exact k2 σ1 τ1 q.1 (zF_t F1 q.2)
  have F2 := zF_t F1 q2.2
  unfold tv_2
  rw [show σ2 3 3 = τ2 20 18 from q2.1.2.1.2.2.2.2.1]
  refine zz_b (sv_save q2.1) (fun _ σ3 τ3 q3 => ?_) (fun σ1 τ1 q => ?_)
  case refine_2 =>
    rw [tv_r3 (zW_n q.1)]
    exact k2 σ1 τ1 q.1 (zF_t F2 q.2)
  have F3 := zF_t F2 q3.2
  unfold tv_3
  rw [show σ3 4 0 = τ3 20 0 from q3.1.2.1.1.1]
  refine zz_b (sv_save q3.1) (fun _ σ4 τ4 q4 => ?_) (fun σ1 τ1 q => ?_)
  case refine_2 =>
    rw [tv_r4 (zW_n q.1)]
    exact k2 σ1 τ1 q.1 (zF_t F3 q.2)
  have F4 := zF_t F3 q4.2
  unfold tv_4
  rw [show σ4 5 0 = τ4 20 1 from q4.1.2.1.2.1.1]
  refine zz_b (sv_save q4.1) (fun _ σ5 τ5 q5 => ?_) (fun σ1 τ1 q => ?_)
  case refine_2 =>
    rw [tv_r5 (zW_n q.1)]
    exact k2 σ1 τ1 q.1 (zF_t F4 q.2)
  have F5 := zF_t F4 q5.2
  unfold tv_5
  rw [show σ5 6 0 = τ5 20 2 from q5.1.2.1.2.2.1.1]
  refine zz_b (sv_save q5.1) (fun _ σ6 τ6 q6 => ?_) (fun σ1 τ1 q => ?_)
  case refine_2 =>
    rw [tv_r6 (zW_n q.1)]
    exact k2 σ1 τ1 q.1 (zF_t F5 q.2)
  have F6 := zF_t F5 q6.2
  unfold tv_6
  rw [show σ6 3 6 = τ6 20 21 from zQ_ring q6.1]
  refine zz_b (sv_save q6.1) (fun _ σ7 τ7 q7 => ?_) (fun σ1 τ1 q => ?_)
  case refine_2 =>
    rw [tv_r7 (zW_n q.1)]
    exact k2 σ1 τ1 q.1 (zF_t F6 q.2)
  have F7 := zF_t F6 q7.2
  unfold tv_7
  rw [show σ7 3 9 = τ7 20 24 from q7.1.1.2.2.2.1]
  refine zz_b (sv_save q7.1) (fun _ σ8 τ8 q8 => ?_) (fun σ1 τ1 q => ?_)
  case refine_2 =>
    rw [tw_rm (zW_n q.1)]
    exact k2 σ1 τ1 q.1 (zF_t F7 q.2)
  have F8 := zF_t F7 q8.2
  rw [xp_s]
  exact k1 σ8 τ8 q8.1 F8
theorem sv_switch {sel way : Int32} (h : zQ zs fc fr wt σ τ) (hff : fc.1 = fr) (hf : jr_R fr 3) (hs : jr_R sel 65535) (hD : zd_D (σ 13) τ 0 sel) (hk : (way = 2 ∧ (τ 24 0 = 5 ∨ τ 24 0 = 6)) ∨ ((way = 0 ∨ way = 1) ∧ τ 24 0 = 5)) : zz_Z (fr_switchTask way σ) (fy_switchTo sel way τ) (fun (_ : Unit) σ' τ' => zT σ' τ' ∧ zX σ σ' τ τ') (fun σ' τ' => (zW zs σ' τ' ∨ zU σ' τ') ∧ zX σ σ' τ τ') := by
  rw [tw_e]
  unfold fr_switchTask
  have hw : way = 0 ∨ way = 1 ∨ way = 2 := by
    rcases hk with ⟨a, _⟩ | ⟨a | a, _⟩
    · exact Or.inr (Or.inr a)
    · exact Or.inl a
    · exact Or.inr (Or.inl a)
  have h0 : σ 13 0 = sel := hD.1
  have h1 : σ 13 1 = τ 22 0 := hD.2.1
  refine zz_lc (fun v1 e1 => ?_)
  rw [hD.2.2.2.1] at e1
  by_cases fit : τ 24 0 = (if way = (2 : Int32) then (6 : Int32) else (5 : Int32))
  case neg =>
    rw [if_neg fit]
    have ev : v1 = 0 := by
      rcases hk with ⟨a, b⟩ | ⟨a, b⟩
      · rw [a, if_pos rfl] at fit
        rw [e1, if_neg fit, a, if_pos rfl, if_neg (by decide)]
      · have a2 : ¬ way = 2 := by rcases a with a | a <;> (rw [a]; decide)
        rw [if_neg a2] at fit
        exact absurd b fit
    refine zz_n (by rw [ev]; decide) ?_
    obtain ⟨w1, w2⟩ := zQ_rc (σ0 := σ) (τ0 := τ) (v := 13) (v' := 13) h hs (by decide) (by decide) (by decide)
    rw [h0, xl_e, xl_e, tw_r0 (zW_n w1)]
    exact ⟨Or.inl w1, zX_F w2 (by decide) (by decide)⟩
  rw [if_pos fit]
  have ev : ¬ v1 = 0 := by
    rw [e1, fit]
    rcases hw with a | a | a <;> (rw [a]; decide)
  refine zz_p (by rw [if_neg ev]) ?_
  rw [xl_e]
  refine zz_lr (fun bs eb => ?_)
  rw [← eb] at h1
  have F0 : zF [2, 12, 16] [18, 19, 28] σ σ τ τ := zF_r
  unfold tw_0
  rw [h1]
  refine sv_rw (j := 0) h (fun σ1 τ1 g1 G1 w0 y1 => ?_) (fun σ1 τ1 q q2 => ?_)
  case refine_2 =>
    rw [tw_r1 (zW_n q)]
    exact ⟨Or.inl q, zX_F (zF_t F0 q2) (by decide) (by decide)⟩
  have F1 := zF_t F0 G1
  have b1 : σ1 13 1 = bs := by rw [G1.1 13 (by decide)]; exact h1
  unfold tw_1
  rw [b1]
  refine sv_rw (j := 1) g1 (fun σ2 τ2 g2 G2 w1 y2 => ?_) (fun σ1 τ1 q q2 => ?_)
  case refine_2 =>
    rw [tw_r2 (zW_n q)]
    exact ⟨Or.inl q, zX_F (zF_t F1 q2) (by decide) (by decide)⟩
  have F2 := zF_t F1 G2
  have b2 : σ2 13 1 = bs := by rw [G2.1 13 (by decide)]; exact b1
  have w0 : σ2 16 0 = τ2 28 0 ∧ jr_R (σ2 16 0) 65535 := by rw [(y2 0 (by decide)).1, (y2 0 (by decide)).2]; exact w0
  unfold tw_2
  rw [b2]
  refine sv_rw (j := 2) g2 (fun σ3 τ3 g3 G3 w2 y3 => ?_) (fun σ1 τ1 q q2 => ?_)
  case refine_2 =>
    rw [tw_r3 (zW_n q)]
    exact ⟨Or.inl q, zX_F (zF_t F2 q2) (by decide) (by decide)⟩
  have F3 := zF_t F2 G3
  have b3 : σ3 13 1 = bs := by rw [G3.1 13 (by decide)]; exact b2
  have w0 : σ3 16 0 = τ3 28 0 ∧ jr_R (σ3 16 0) 65535 := by rw [(y3 0 (by decide)).1, (y3 0 (by decide)).2]; exact w0
  have w1 : σ3 16 1 = τ3 28 1 ∧ jr_R (σ3 16 1) 65535 := by rw [(y3 1 (by decide)).1, (y3 1 (by decide)).2]; exact w1
  unfold tw_3
  rw [b3]
  refine sv_rw (j := 3) g3 (fun σ4 τ4 g4 G4 w3 y4 => ?_) (fun σ1 τ1 q q2 => ?_)
  case refine_2 =>
    rw [tw_r4 (zW_n q)]
    exact ⟨Or.inl q, zX_F (zF_t F3 q2) (by decide) (by decide)⟩
  have F4 := zF_t F3 G4
  have b4 : σ4 13 1 = bs := by rw [G4.1 13 (by decide)]; exact b3
  have w0 : σ4 16 0 = τ4 28 0 ∧ jr_R (σ4 16 0) 65535 := by rw [(y4 0 (by decide)).1, (y4 0 (by decide)).2]; exact w0
  have w1 : σ4 16 1 = τ4 28 1 ∧ jr_R (σ4 16 1) 65535 := by rw [(y4 1 (by decide)).1, (y4 1 (by decide)).2]; exact w1
  have w2 : σ4 16 2 = τ4 28 2 ∧ jr_R (σ4 16 2) 65535 := by rw [(y4 2 (by decide)).1, (y4 2 (by decide)).2]; exact w2
  unfold tw_4
  rw [b4]
  refine sv_rw (j := 4) g4 (fun σ5 τ5 g5 G5 w4 y5 => ?_) (fun σ1 τ1 q q2 => ?_)
  case refine_2 =>
    rw [tw_r5 (zW_n q)]
    exact ⟨Or.inl q, zX_F (zF_t F4 q2) (by decide) (by decide)⟩
  have F5 := zF_t F4 G5
  have b5 : σ5 13 1 = bs := by rw [G5.1 13 (by decide)]; exact b4
  have w0 : σ5 16 0 = τ5 28 0 ∧ jr_R (σ5 16 0) 65535 := by rw [(y5 0 (by decide)).1, (y5 0 (by decide)).2]; exact w0
  have w1 : σ5 16 1 = τ5 28 1 ∧ jr_R (σ5 16 1) 65535 := by rw [(y5 1 (by decide)).1, (y5 1 (by decide)).2]; exact w1
  have w2 : σ5 16 2 = τ5 28 2 ∧ jr_R (σ5 16 2) 65535 := by rw [(y5 2 (by decide)).1, (y5 2 (by decide)).2]; exact w2
  have w3 : σ5 16 3 = τ5 28 3 ∧ jr_R (σ5 16 3) 65535 := by rw [(y5 3 (by decide)).1, (y5 3 (by decide)).2]; exact w3
  unfold tw_5
  rw [b5]
  refine sv_rw (j := 5) g5 (fun σ6 τ6 g6 G6 w5 y6 => ?_) (fun σ1 τ1 q q2 => ?_)
  case refine_2 =>
    rw [tw_r6 (zW_n q)]
    exact ⟨Or.inl q, zX_F (zF_t F5 q2) (by decide) (by decide)⟩
  have F6 := zF_t F5 G6
  have b6 : σ6 13 1 = bs := by rw [G6.1 13 (by decide)]; exact b5
  have w0 : σ6 16 0 = τ6 28 0 ∧ jr_R (σ6 16 0) 65535 := by rw [(y6 0 (by decide)).1, (y6 0 (by decide)).2]; exact w0
  have w1 : σ6 16 1 = τ6 28 1 ∧ jr_R (σ6 16 1) 65535 := by rw [(y6 1 (by decide)).1, (y6 1 (by decide)).2]; exact w1
  have w2 : σ6 16 2 = τ6 28 2 ∧ jr_R (σ6 16 2) 65535 := by rw [(y6 2 (by decide)).1, (y6 2 (by decide)).2]; exact w2
  have w3 : σ6 16 3 = τ6 28 3 ∧ jr_R (σ6 16 3) 65535 := by rw [(y6 3 (by decide)).1, (y6 3 (by decide)).2]; exact w3
  have w4 : σ6 16 4 = τ6 28 4 ∧ jr_R (σ6 16 4) 65535 := by rw [(y6 4 (by decide)).1, (y6 4 (by decide)).2]; exact w4
  unfold tw_6
  rw [b6]
  refine sv_rw (j := 6) g6 (fun σ7 τ7 g7 G7 w6 y7 => ?_) (fun σ1 τ1 q q2 => ?_)
  case refine_2 =>
    rw [tw_r7 (zW_n q)]
    exact ⟨Or.inl q, zX_F (zF_t F6 q2) (by decide) (by decide)⟩
  have F7 := zF_t F6 G7
  have b7 : σ7 13 1 = bs := by rw [G7.1 13 (by decide)]; exact b6
  have w0 : σ7 16 0 = τ7 28 0 ∧ jr_R (σ7 16 0) 65535 := by rw [(y7 0 (by decide)).1, (y7 0 (by decide)).2]; exact w0
  have w1 : σ7 16 1 = τ7 28 1 ∧ jr_R (σ7 16 1) 65535 := by rw [(y7 1 (by decide)).1, (y7 1 (by decide)).2]; exact w1
  have w2 : σ7 16 2 = τ7 28 2 ∧ jr_R (σ7 16 2) 65535 := by rw [(y7 2 (by decide)).1, (y7 2 (by decide)).2]; exact w2
  have w3 : σ7 16 3 = τ7 28 3 ∧ jr_R (σ7 16 3) 65535 := by rw [(y7 3 (by decide)).1, (y7 3 (by decide)).2]; exact w3
  have w4 : σ7 16 4 = τ7 28 4 ∧ jr_R (σ7 16 4) 65535 := by rw [(y7 4 (by decide)).1, (y7 4 (by decide)).2]; exact w4
  have w5 : σ7 16 5 = τ7 28 5 ∧ jr_R (σ7 16 5) 65535 := by rw [(y7 5 (by decide)).1, (y7 5 (by decide)).2]; exact w5
  unfold tw_7
  rw [b7]
  refine sv_rw (j := 7) g7 (fun σ8 τ8 g8 G8 w7 y8 => ?_) (fun σ1 τ1 q q2 => ?_)
  case refine_2 =>
    rw [tw_r8 (zW_n q)]
    exact ⟨Or.inl q, zX_F (zF_t F7 q2) (by decide) (by decide)⟩
  have F8 := zF_t F7 G8
  have b8 : σ8 13 1 = bs := by rw [G8.1 13 (by decide)]; exact b7
  have w0 : σ8 16 0 = τ8 28 0 ∧ jr_R (σ8 16 0) 65535 := by rw [(y8 0 (by decide)).1, (y8 0 (by decide)).2]; exact w0
  have w1 : σ8 16 1 = τ8 28 1 ∧ jr_R (σ8 16 1) 65535 := by rw [(y8 1 (by decide)).1, (y8 1 (by decide)).2]; exact w1
  have w2 : σ8 16 2 = τ8 28 2 ∧ jr_R (σ8 16 2) 65535 := by rw [(y8 2 (by decide)).1, (y8 2 (by decide)).2]; exact w2
  have w3 : σ8 16 3 = τ8 28 3 ∧ jr_R (σ8 16 3) 65535 := by rw [(y8 3 (by decide)).1, (y8 3 (by decide)).2]; exact w3
  have w4 : σ8 16 4 = τ8 28 4 ∧ jr_R (σ8 16 4) 65535 := by rw [(y8 4 (by decide)).1, (y8 4 (by decide)).2]; exact w4
  have w5 : σ8 16 5 = τ8 28 5 ∧ jr_R (σ8 16 5) 65535 := by rw [(y8 5 (by decide)).1, (y8 5 (by decide)).2]; exact w5
  have w6 : σ8 16 6 = τ8 28 6 ∧ jr_R (σ8 16 6) 65535 := by rw [(y8 6 (by decide)).1, (y8 6 (by decide)).2]; exact w6
  refine sv_saves g8 hff hf (fun σa τa ga Ga => ?_) (fun σ1 τ1 q q2 => ⟨Or.inl q, zX_t (zX_F F8 (by decide) (by decide)) (zX_F q2 (by decide) (by decide))⟩)
  have d0 : σ8 13 0 = sel := by rw [F8.1 13 (by decide)]; exact h0
  refine sv_marks ga hs (by rw [Ga.1 13 (by decide)]; exact d0) (by rw [Ga.1 13 (by decide)]; exact b8) hw (fun σb τb gb Gb => ?_) (fun σ1 τ1 q q2 => ⟨Or.inl q, zX_t (zX_F F8 (by decide) (by decide)) (zX_F (zF_t Ga q2) (by decide) (by decide))⟩)
  have G := zF_t Ga Gb
  have r13 : σb 13 = σ8 13 := G.1 13 (by decide)
  have r16 : σb 16 = σ8 16 := G.1 16 (by decide)
  have r28 : τb 28 = τ8 28 := G.2.1 28 (by decide)
  have X : zX σ σb τ τb := zX_t (zX_F F8 (by decide) (by decide)) (zX_F G (by decide) (by decide))
  refine zz_m (sv_tu (way := way) gb hs (by rw [r13]; exact d0) (by rw [r13]; exact b8) (by rw [r16, r28]; exact w0.1) (by rw [r16, r28]; exact w1.1) (by rw [r16, r28]; exact w2.1) (by rw [r16, r28]; exact w3) (by rw [r16, r28]; exact w4) (by rw [r16, r28]; exact w5) (by rw [r16, r28]; exact w6.1) (by rw [r16, r28]; exact w7.1)) (fun _ σ2 q => ⟨q.1, zX_t X q.2⟩) (fun σ2 q => ⟨Or.inr q.1, zX_t X q.2⟩)
end ZR
