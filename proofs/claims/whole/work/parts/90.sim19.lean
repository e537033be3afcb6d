/-! Far transfers. -/
variable {zs : Int32}
/-- between instructions -/
def zE (σ τ : xs_S) : Prop := zg_G σ τ ∧ zm_M σ τ ∧ zr_R (σ 3) (σ 4) (σ 5) (σ 6) (τ 20) ∧ σ 3 5 = τ 20 20 ∧ jr_R (σ 3 5) 3
def zH (σ τ : xs_S) : Prop := zE σ τ ∧ τ 18 9 = -1 ∧ τ 18 11 = 1
def zWU (zs : Int32) (σ τ : xs_S) : Prop := zW zs σ τ ∨ zU σ τ
theorem zH_G {σ τ : xs_S} (h : zG zs σ τ) : zH σ τ := by
  obtain ⟨f, ip, hf, h⟩ := h
  exact ⟨⟨h.1.1, h.1.2.1, h.2.1, h.2.2.1.1.trans h.2.2.1.2.2.symm, by rw [h.2.2.1.1]; exact hf⟩, h.1.2.2.1, h.2.2.2.1.2⟩
theorem zH_T {σ τ : xs_S} (h : zT σ τ) : zH σ τ := ⟨⟨h.1.1, h.1.2.1, h.2.1, h.2.2.1⟩, h.1.2.2.1, h.2.2.2.2⟩
section ZB
variable {fc : Int32 × Int32} {fr wt : Int32} {σ τ : xs_S}
theorem sv_passGate {cl sel f ip : Int32} (h : zQ zs (f, ip) f wt σ τ) (hf : jr_R f 3) (hD : zd_D (σ 13) τ 0 sel) : zz_Z (fr_passGate cl σ) (fy_through (τ 23 0) (τ 22 0) (τ 27 0) (if cl = 0 then (1 : Int32) else (0 : Int32)) (0 : Int32) (fy_nextIp τ) τ) (fun (_ : Unit) σ' τ' => zG zs σ' τ' ∧ zX σ σ' τ τ') (fun σ' τ' => zW zs σ' τ' ∧ zX σ σ' τ τ') := by
  have hL : jr_R (τ 23 0) 65535 := hD.2.2.1 ▸ hD.2.2.2.2.2.2.2.1
  rw [ft_e, (zQ_nx h).2]
  unfold fr_passGate
  refine zz_b (sv_findTarget (cl := cl) h hD.2.2.1 hL (by by_cases c : cl = 0 <;> simp [c])) (fun _ σ1 τ1 q => ?_) (fun σ1 τ1 q => ?_)
  case refine_2 =>
    rw [if_neg (zW_n q.1)]
    exact ⟨q.1, zX_F q.2 (by decide) (by decide)⟩
  obtain ⟨h1, F1, D1, n1⟩ := q
  have X1 : zX σ σ1 τ τ1 := zX_F F1 (by decide) (by decide)
  have hB : σ1 13 1 = τ 22 0 := by rw [F1.1 13 (by decide)]; exact hD.2.1
  rw [if_pos (zQ_n h1)]
  by_cases c : cl = 0
  · rw [if_pos c, if_pos c, hB]
    unfold ft_z
    rw [xl_e, if_neg (show ¬ (1 : Int32) = 0 by decide), xl_e, xl_e]
    refine zz_o (g := fun x => x) (sv_enter (Or.inr rfl) h1 D1 hL n1) (fun _ σ2 τ2 q => ?_) (fun σ2 τ2 q => ?_)
    · exact zz_s ⟨⟨_, _, hf, q.1⟩, zX_t X1 (zX_f q.2 (by decide) (by decide))⟩
    · exact ⟨q.1, zX_t X1 (zX_f q.2 (by decide) (by decide))⟩
  · rw [if_neg c, if_neg c]
    refine sv_thC (G := fun x => x) h1 D1 hL n1 hB (by rw [F1.1 13 (by decide)]; exact hD.2.2.2.2.2.1) rfl (fun σ2 τ2 a b d => ?_) (fun σ2 τ2 a b d => ?_)
    · exact zz_s ⟨⟨_, _, hf, a⟩, zX_t X1 ⟨zf_m b (by decide), zf_m d (by decide)⟩⟩
    · exact ⟨a, zX_t X1 ⟨zf_m b (by decide), zf_m d (by decide)⟩⟩
/-- both transfers after their look-up: through a gate or to a task -/
theorem sv_trG {cl sel f ip : Int32} {σ0 : xs_S} (h : zQ zs (f, ip) f wt σ τ) (hf : jr_R f 3) (hs : jr_R sel 65535) (hD : zd_D (σ 13) τ 0 sel) (v5 : Int32) (e5 : v5 = (if (τ 24 0) = (7 : Int32) then (if (τ 25 0) < (τ 20 21) then (0 : Int32) else (if (τ 25 0) < sel &&& 3 then (0 : Int32) else (1 : Int32))) else (if (τ 24 0) = (5 : Int32) then (if (τ 25 0) < (τ 20 21) then (0 : Int32) else (if (τ 25 0) < sel &&& 3 then (0 : Int32) else (1 : Int32))) else (0 : Int32)))) : zz_Z (xl_l ((if (σ 13 3) = (7 : Int32) then (1 : Int32) else (if (σ 13 3) = (5 : Int32) then (1 : Int32) else (0 : Int32)))) (fun v7 => xl_l ((if (σ 13 4) < (σ 3 6) then (0 : Int32) else (if (σ 13 4) < (fr_rplOf sel σ) then (0 : Int32) else (1 : Int32)))) (fun v8 => xp_b (fx_refuse (if v7 = 0 then (1 : Int32) else (if v8 = 0 then (1 : Int32) else (0 : Int32))) (13 : Int32) (fr_codeOf sel σ0) σ) (fun b9 s10 => xp_b (fx_refuse (if (s10 13 6) = 0 then (1 : Int32) else (0 : Int32)) (11 : Int32) (fr_codeOf sel σ0) s10) (fun b11 s12 => (if (s12 13 3) = (5 : Int32) then xp_b (fr_switchTask (if cl = 0 then (0 : Int32) else (1 : Int32)) s12) (fun b16 s17 => (some (), s17)) else xp_b (fr_passGate cl s12) (fun b14 s15 => (some (), s15)))))))) (xl_l ((if v5 = 0 then (fy_raise (13 : Int32) (fy_codeOf sel τ) τ) else (if (τ 26 0) = 0 then (fy_raise (11 : Int32) (fy_codeOf sel τ) τ) else τ))) (fun s6 => (if (fy_isRaised s6) = 0 then (if (s6 24 0) = (5 : Int32) then xl_l ((fy_switchTo sel (if cl = 0 then (0 : Int32) else (1 : Int32)) s6)) (fun s11 => s11) else xl_l ((fy_through (s6 23 0) (s6 22 0) (s6 27 0) (if cl = 0 then (1 : Int32) else (0 : Int32)) (0 : Int32) (fy_nextIp s6) s6)) (fun s10 => s10)) else s6))) (fun (_ : Unit) σ' τ' => zH σ' τ' ∧ zX σ σ' τ τ') (fun σ' τ' => zWU zs σ' τ' ∧ zX σ σ' τ τ') := by
  unfold fr_rplOf
  rw [hD.2.2.2.1, hD.2.2.2.2.1, zQ_ring h]
  refine zz_lc (fun v7 e7 => ?_)
  refine zz_lc (fun v8 e8 => ?_)
  rw [← e8] at e5
  have e78 : (v5 = 0 ∧ ¬ (if v7 = 0 then (1 : Int32) else (if v8 = 0 then (1 : Int32) else (0 : Int32))) = 0) ∨ (¬ v5 = 0 ∧ (if v7 = 0 then (1 : Int32) else (if v8 = 0 then (1 : Int32) else (0 : Int32))) = 0) := by
    by_cases a : τ 24 0 = 7
    · rw [if_pos a] at e5 e7
      rw [e5, e7]
      by_cases b : v8 = 0 <;> simp [b]
    · rw [if_neg a] at e5 e7
      by_cases a2 : τ 24 0 = 5
      · rw [if_pos a2] at e5 e7
        rw [e5, e7]
        by_cases b : v8 = 0 <;> simp [b]
      · rw [if_neg a2] at e5 e7
        rw [e5, e7]
        simp
  have fail : ∀ (v : Nat) (v' : Int32) (g : xs_S → xs_S), 10 ≤ v → v ≤ 14 → v' = nI v → zWU zs (xu_u (xu_u σ 2 0 v') 2 1 (fr_codeOf sel σ0)) (xl_l (fy_raise v' (fy_codeOf sel τ) τ) (fun s6 => if fy_isRaised s6 = 0 then g s6 else s6)) ∧ zX σ (xu_u (xu_u σ 2 0 v') 2 1 (fr_codeOf sel σ0)) τ (xl_l (fy_raise v' (fy_codeOf sel τ) τ) (fun s6 => if fy_isRaised s6 = 0 then g s6 else s6)) := by
    intro v v' g a b c
    obtain ⟨w1, w2⟩ := zQ_rc (σ0 := σ0) (τ0 := τ) h hs a b c
    rw [xl_e, if_neg (zW_n w1)]
    exact ⟨Or.inl w1, zX_F w2 (by decide) (by decide)⟩
  rcases e78 with ⟨c5, cx⟩ | ⟨c5, cx⟩
  · rw [if_pos (α := xs_S) c5]
    exact zz_n cx (fail 13 13 _ (by decide) (by decide) (by decide))
  rw [if_neg (α := xs_S) c5]
  refine zz_p cx ?_
  rw [hD.2.2.2.2.2.2.1]
  by_cases c4 : τ 26 0 = 0
  · rw [if_pos (α := xs_S) c4]
    exact zz_n (by simp [c4]) (fail 11 11 _ (by decide) (by decide) (by decide))
  rw [if_neg (α := xs_S) c4]
  refine zz_p (by simp [c4]) ?_
  rw [xl_e, if_pos (zQ_n h), hD.2.2.2.1]
  by_cases k5 : τ 24 0 = 5
  · rw [if_pos k5, if_pos k5]
    have hk : ((if cl = 0 then (0 : Int32) else 1) = 2 ∧ (τ 24 0 = 5 ∨ τ 24 0 = 6)) ∨ (((if cl = 0 then (0 : Int32) else 1) = 0 ∨ (if cl = 0 then (0 : Int32) else 1) = 1) ∧ τ 24 0 = 5) := by
      refine Or.inr ⟨?_, k5⟩
      by_cases c : cl = 0
      · rw [if_pos c]; exact Or.inl rfl
      · rw [if_neg c]; exact Or.inr rfl
    refine zz_b (sv_switch h rfl hf hs hD hk) (fun _ σ1 τ1 q => zz_s ⟨zH_T q.1, q.2⟩) (fun σ1 τ1 q => q)
  · rw [if_neg k5, if_neg k5]
    refine zz_b (sv_passGate h hf hD) (fun _ σ1 τ1 q => zz_s ⟨zH_G q.1, q.2⟩) (fun σ1 τ1 q => ⟨Or.inl q.1, q.2⟩)
/-- both transfers after their look-up: to code -/
theorem sv_trP {cl sel off f ip : Int32} {σ0 : xs_S} (h : zQ zs (f, ip) f wt σ τ) (hf : jr_R f 3) (hs : jr_R sel 65535) (hn : ¬ sel < 4) (hD : zd_D (σ 13) τ 0 sel) : zz_Z (xp_b (fx_refuse (if (σ 13 6) = 0 then (1 : Int32) else (0 : Int32)) (11 : Int32) (fr_codeOf sel σ0) σ) (fun b19 s20 => (if cl = 0 then xp_b (fr_enter 13 off s20) (fun b22 s23 => (some (), s23)) else xp_b (fr_pushReturn (fr_next s20) s20) (fun b24 s25 => xp_b (fr_enter 13 off s25) (fun b26 s27 => (some (), s27)))))) (xl_l (if (τ 26 0) = 0 then (fy_raise (11 : Int32) (fy_codeOf sel τ) τ) else τ) (fun s6 => (if (fy_isRaised s6) = 0 then xl_l ((if cl = 0 then s6 else (fy_pushWord (s6 20 0) s6))) (fun s12 => xl_l ((if cl = 0 then s12 else (fy_pushWord (fy_nextIp s12) s12))) (fun s13 => xl_l ((fy_enter sel off s13)) (fun s14 => s14))) else s6))) (fun (_ : Unit) σ' τ' => zH σ' τ' ∧ zX σ σ' τ τ') (fun σ' τ' => zWU zs σ' τ' ∧ zX σ σ' τ τ') := by
  rw [hD.2.2.2.2.2.2.1]
  by_cases c4 : τ 26 0 = 0
  · rw [if_pos (α := xs_S) c4]
    refine zz_n (by simp [c4]) ?_
    obtain ⟨w1, w2⟩ := zQ_rc (σ0 := σ0) (τ0 := τ) (v := 11) (v' := 11) h hs (by decide) (by decide) (by decide)
    rw [xl_e, if_neg (zW_n w1)]
    exact ⟨Or.inl w1, zX_F w2 (by decide) (by decide)⟩
  rw [if_neg (α := xs_S) c4]
  refine zz_p (by simp [c4]) ?_
  rw [xl_e, if_pos (zQ_n h)]
  by_cases c : cl = 0
  · simp only [if_pos c]
    rw [xl_e, xl_e]
    refine zz_b (sv_enter (Or.inl rfl) h hD hs hn) (fun _ σ1 τ1 q => zz_s ⟨zH_G ⟨_, _, hf, q.1⟩, zX_f q.2 (by decide) (by decide)⟩) (fun σ1 τ1 q => ⟨Or.inl q.1, zX_f q.2 (by decide) (by decide)⟩)
  · simp only [if_neg c]
    unfold fr_pushReturn
    rw [xp_bb, h.2.1.1.1, (zQ_nx h).1]
    refine zz_b (sv_pushWord h) (fun _ σ1 τ1 q => ?_) (fun σ1 τ1 q => ?_)
    case refine_2 =>
      rw [ym_push (zW_n q.1), xl_e, ym_enter (zW_n q.1), xl_e]
      exact ⟨Or.inl q.1, zX_F q.2 (by decide) (by decide)⟩
    rw [xp_bb, (zQ_nx q.1).2]
    refine zz_b (sv_pushWord q.1) (fun _ σ2 τ2 q2 => ?_) (fun σ2 τ2 q2 => ?_)
    case refine_2 =>
      rw [ym_enter (zW_n q2.1), xl_e]
      exact ⟨Or.inl q2.1, zX_F (zF_t q.2 q2.2) (by decide) (by decide)⟩
    have F2 := zF_t q.2 q2.2
    rw [xp_s]
    refine zz_b (sv_enter (Or.inl rfl) q2.1 (zd_F hD F2.1 F2.2.1 (by decide) (by decide)) hs hn) (fun _ σ3 τ3 q3 => zz_s ⟨zH_G ⟨_, _, hf, q3.1⟩, zX_t (zX_F F2 (by decide) (by decide)) (zX_f q3.2 (by decide) (by decide))⟩) (fun σ3 τ3 q3 => ⟨Or.inl q3.1, zX_t (zX_F F2 (by decide) (by decide)) (zX_f q3.2 (by decide) (by decide))⟩)
theorem sv_transfer {cl sel off f ip : Int32} (h : zQ zs (f, ip) f wt σ τ) (hf : jr_R f 3) (hs : jr_R sel 65535) : zz_Z (fr_transfer sel off cl σ) (fy_transfer sel off cl τ) (fun (_ : Unit) σ' τ' => zH σ' τ' ∧ zX σ σ' τ τ') (fun σ' τ' => zWU zs σ' τ' ∧ zX σ σ' τ τ') := by
  unfold fr_transfer fy_transfer
  refine zz_lc (fun v1 e1 => ?_)
  subst e1
  refine sv_sel (k := 0) (v := 13) (cd := 0) h hs (Or.inl rfl) (by decide) (by decide) (by decide) (by decide) (by decide) (fun σ1 τ1 h1 hF hD hn => ?_) (fun σ1 τ1 h1 hF => ?_)
  · replace hD := hD.1
    rw [cn_0] at hD
    have X1 : zX σ σ1 τ τ1 := zX_F hF (by decide) (by decide)
    rw [if_pos (zQ_n h1), en_e (zQ_ring h1) hD]
    refine zz_lr (fun v3 e3 => ?_)
    subst e3
    have er : fr_rplOf sel σ1 = sel &&& 3 := rfl
    have out : ∀ (rc : xp_P Unit) (rr : xs_S), zz_Z rc rr (fun (_ : Unit) σ' τ' => zH σ' τ' ∧ zX σ1 σ' τ1 τ') (fun σ' τ' => zWU zs σ' τ' ∧ zX σ1 σ' τ1 τ') → zz_Z rc rr (fun (_ : Unit) σ' τ' => zH σ' τ' ∧ zX σ σ' τ τ') (fun σ' τ' => zWU zs σ' τ' ∧ zX σ σ' τ τ') := fun rc rr z => zz_m z (fun _ σ2 q => ⟨q.1, zX_t X1 q.2⟩) (fun σ2 q => ⟨q.1, zX_t X1 q.2⟩)
    by_cases c1 : fy_isDirect τ1 = 0
    · simp only [if_pos c1]
      refine zz_lr (fun v4 e4 => ?_)
      subst e4
      refine zz_lr (fun v5 e5 => ?_)
      simp only [if_true]
      exact out _ _ (sv_trG h1 hf hs hD v5 e5)
    · by_cases c2 : τ1 24 0 = 2
      · have d2 : σ1 13 3 = 2 := hD.2.2.2.1.trans c2
        simp only [if_neg c1]
        rw [if_pos d2]
        refine zz_lr (fun v4 e4 => ?_)
        rw [if_pos c2] at e4
        subst e4
        refine zz_lr (fun v5 e5 => ?_)
        simp only [if_neg (show ¬ (1 : Int32) = 0 by decide)]
        exact out _ _ (sv_trP h1 hf hs hn hD)
      · have d2 : ¬ σ1 13 3 = 2 := fun q => c2 (hD.2.2.2.1.symm.trans q)
        simp only [if_neg c1]
        rw [if_neg d2]
        by_cases c3 : τ1 20 21 < sel &&& 3
        · have d3 : σ1 3 6 < fr_rplOf sel σ1 := by rw [zQ_ring h1]; exact c3
          rw [if_pos d3]
          refine zz_lr (fun v4 e4 => ?_)
          rw [if_neg c2, if_pos c3] at e4
          subst e4
          refine zz_lr (fun v5 e5 => ?_)
          simp only [if_pos rfl, if_true]
          exact out _ _ (sv_trG h1 hf hs hD v5 e5)
        · have d3 : ¬ σ1 3 6 < fr_rplOf sel σ1 := by rw [zQ_ring h1]; exact c3
          rw [if_neg d3]
          refine zz_lr (fun v4 e4 => ?_)
          rw [if_neg c2, if_neg c3] at e4
          subst e4
          refine zz_lr (fun v5 e5 => ?_)
          simp only [if_neg (show ¬ (1 : Int32) = 0 by decide)]
          exact out _ _ (sv_trP h1 hf hs hn hD)
  · rw [if_neg (zW_n h1)]
    exact ⟨Or.inl h1, zX_F hF (by decide) (by decide)⟩
theorem sv_endTask {f ip : Int32} (h : zQ zs (f, ip) f wt σ τ) (hf : jr_R f 3) : zz_Z (fr_endTask σ) (fy_leaveTask τ) (fun (_ : Unit) σ' τ' => zH σ' τ' ∧ zX σ σ' τ τ') (fun σ' τ' => zWU zs σ' τ' ∧ zX σ σ' τ τ') := by
  unfold fr_endTask fy_leaveTask
  have hst : σ 3 8 = τ 20 23 := h.2.1.2.2.2.2.2.2.2.2.1
  rw [hst]
  refine zz_b (sv_wordAt h.1 (Or.inr ⟨rfl, rfl⟩)) (fun sel σ1 r1 q => ?_) (fun σ1 r1 q => ?_)
  case refine_2 =>
    have hW := zW_F h q.1 q.2 (by decide) (by decide)
    rw [if_neg (zW_n hW)]
    exact ⟨Or.inl hW, zX_F q.2 (by decide) (by decide)⟩
  obtain ⟨e1, l1, F1, hs⟩ := q
  have h1 := zQ_F h l1 F1 (by decide) (by decide) (by decide)
  have X1 : zX σ σ1 τ r1.2 := zX_F F1 (by decide) (by decide)
  rw [if_pos (zQ_n h1), e1]
  refine sv_sel (k := 0) (v := 13) (cd := 0) h1 hs (Or.inl rfl) (by decide) (by decide) (by decide) (by decide) (by decide) (fun σ2 τ2 h2 hF hD hn => ?_) (fun σ2 τ2 h2 hF => ?_)
  case refine_2 =>
    rw [if_neg (zW_n h2)]
    exact ⟨Or.inl h2, zX_t X1 (zX_F hF (by decide) (by decide))⟩
  replace hD := hD.1
  rw [cn_0] at hD
  have X2 : zX σ σ2 τ τ2 := zX_t X1 (zX_F hF (by decide) (by decide))
  rw [if_pos (zQ_n h2), hD.2.2.2.1]
  have go : (τ2 24 0 = 5 ∨ τ2 24 0 = 6) → zz_Z (xp_b (fr_switchTask (2 : Int32) σ2) (fun b9 s10 => (some (), s10))) (xl_l (fy_switchTo sel 2 τ2) (fun s6 => s6)) (fun (_ : Unit) σ' τ' => zH σ' τ' ∧ zX σ σ' τ τ') (fun σ' τ' => zWU zs σ' τ' ∧ zX σ σ' τ τ') := fun hk => zz_b (sv_switch h2 rfl hf hs hD (Or.inl ⟨rfl, hk⟩)) (fun _ σ3 τ3 q => zz_s ⟨zH_T q.1, zX_t X2 q.2⟩) (fun σ3 τ3 q => ⟨q.1, zX_t X2 q.2⟩)
  by_cases k5 : τ2 24 0 = 5
  · rw [if_pos (α := xs_S) k5]
    exact zz_p (by simp [k5]) (go (Or.inl k5))
  · rw [if_neg (α := xs_S) k5]
    by_cases k6 : τ2 24 0 = 6
    · rw [if_pos (α := xs_S) k6]
      exact zz_p (by simp [k5, k6]) (go (Or.inr k6))
    · rw [if_neg (α := xs_S) k6]
      refine zz_n (by simp [k5, k6]) ?_
      obtain ⟨q1, q2⟩ := zQ_r h2 (v := 13) (c := 0) (by decide) (by decide) (by decide) (show (13 : Int32) = nI 13 by decide) (show (0 : Int32) = nI 0 by decide)
      rw [xl_e]
      exact ⟨Or.inl q1, zX_t X2 (zX_F q2 (by decide) (by decide))⟩
end ZB
