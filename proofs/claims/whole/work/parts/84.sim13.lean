/-! Returns, whole. -/
variable {zs : Int32}
theorem xp_s {α β : Type} {a : α} {s : xs_S} {f : α → xs_S → xp_P β} : xp_b (some a, s) f = f a s := rfl
section ZH
variable {fc : Int32 × Int32} {fr wt : Int32} {σ τ : xs_S}
theorem ym_outer {a b : Int32} (h : ¬ fy_isRaised τ = 0) : fy_outerStack a b τ = τ := by
  unfold fy_outerStack
  rw [if_neg h]
theorem sv_outer {ss rg : Int32} (h : zQ zs fc fr wt σ τ) (hs : jr_R ss 65535) : zz_Z (fr_findOuterStack ss rg σ) (fy_outerStack ss rg τ) (fun _ σ' τ' => zQ zs fc fr wt σ' τ' ∧ zF [2, 12, 15] zl_R σ σ' τ τ' ∧ zi_I 1 τ τ' ∧ zd_D (σ' 15) τ' 1 ss ∧ ¬ ss < 4 ∧ σ' 15 3 = 4) (fun σ' τ' => zW zs σ' τ' ∧ zF [2, 12, 15] zl_R σ σ' τ τ') := by
  unfold fr_findOuterStack fy_outerStack
  rw [if_pos (zQ_n h)]
  refine zz_lc (fun v1 e1 => ?_)
  subst e1
  refine sv_sel (k := 1) (v := 13) (cd := 0) h hs (Or.inr (Or.inr rfl)) (by decide) (by decide) (by decide) (by decide) (by decide) (fun σ1 τ1 h1 hF hD hn => ?_) (fun σ1 τ1 h1 hF => ?_)
  · obtain ⟨hD, hi⟩ := hD
    rw [cn_1] at hD hi
    rw [if_pos (zQ_n h1)]
    unfold fr_rplOf
    rw [hD.2.2.2.1, hD.2.2.2.2.1]
    have fail : ∀ (v : Nat) (v' : Int32), 10 ≤ v → v ≤ 14 → v' = nI v → zW zs (xu_u (xu_u σ1 2 0 v') 2 1 (fr_codeOf ss σ)) (fy_raise v' (fy_codeOf ss τ1) τ1) ∧ zF [2, 12, 15] zl_R σ (xu_u (xu_u σ1 2 0 v') 2 1 (fr_codeOf ss σ)) τ (fy_raise v' (fy_codeOf ss τ1) τ1) := by
      intro v v' a b c
      obtain ⟨w1, w2⟩ := zQ_rc (σ0 := σ) (τ0 := τ1) h1 hs a b c
      exact ⟨w1, zF_t hF (zF_m w2 (by decide) (by decide))⟩
    refine zz_lc (fun v6 e6 => ?_)
    by_cases c1 : ss &&& 3 = rg
    · by_cases c2 : τ1 24 1 = 4
      · by_cases c3 : τ1 25 1 = rg
        · rw [if_pos c1, if_pos c2, if_pos c3] at e6
          rw [if_pos (α := xs_S) c1, if_pos (α := xs_S) c2, if_pos (α := xs_S) c3, e6]
          refine zz_p (by decide) ?_
          rw [hD.2.2.2.2.2.2.1]
          by_cases c4 : τ1 26 1 = 0
          · rw [if_pos (α := xs_S) c4, xl_e]
            refine zz_n (by simp [c4]) (fail 12 12 (by decide) (by decide) (by decide))
          · rw [if_neg (α := xs_S) c4]
            refine zz_p (by simp [c4]) ?_
            exact zz_s ⟨h1, hF, hi, hD, hn, hD.2.2.2.1.trans c2⟩
        · rw [if_pos c1, if_pos c2, if_neg c3] at e6
          rw [if_pos (α := xs_S) c1, if_pos (α := xs_S) c2, if_neg (α := xs_S) c3, e6, xl_e]
          refine zz_n (by decide) (fail 13 13 (by decide) (by decide) (by decide))
      · rw [if_pos c1, if_neg c2] at e6
        rw [if_pos (α := xs_S) c1, if_neg (α := xs_S) c2, e6, xl_e]
        refine zz_n (by decide) (fail 13 13 (by decide) (by decide) (by decide))
    · rw [if_neg c1] at e6
      rw [if_neg (α := xs_S) c1, e6, xl_e]
      refine zz_n (by decide) (fail 13 13 (by decide) (by decide) (by decide))
  · rw [if_neg (zW_n h1)]
    exact ⟨h1, hF⟩
/-- the class's return after its pops -/
def fb_c (b1 b3 : Int32) (s4 : xs_S) : xp_P Unit := xl_l ((fr_rplOf b3 s4)) (fun v6 => xp_b (fr_findReturn b3 s4) (fun b7 s8 => xl_l ((if v6 ≤ (s8 3 6) then (0 : Int32) else (1 : Int32))) (fun v9 => (if v9 = 0 then xl_l ((xu_u s8 3 6 v6)) (fun s11 => xp_b (fr_enter 14 b1 s11) (fun b12 s13 => (some (), s13))) else xp_b (fr_popWord s8) (fun b14 s15 => xp_b (fr_popWord s15) (fun b16 s17 => xp_b (fr_findOuterStack b16 v6 s17) (fun b18 s19 => xl_l ((fd_copy 5 15 s19)) (fun s20 => xl_l ((xu_u s20 3 3 b14)) (fun s21 => xl_l ((xu_u s21 3 6 v6)) (fun s22 => xp_b (fr_enter 14 b1 s22) (fun b23 s24 => xl_l ((fr_hideData s24)) (fun s25 => (some (), s25)))))))))))))
/-- the reference's -/
def fb_y (b1 b3 v4 : Int32) (s0 : xs_S) : xs_S := xl_l ((b3 &&& (3 : Int32))) (fun v6 => xl_l ((if (fy_isNull b3 s0) = 0 then (if (s0 20 21) ≤ v6 then (fy_lookUp b3 (0 : Int32) s0) else (fy_raise (13 : Int32) (fy_codeOf b3 s0) s0)) else (fy_raise (13 : Int32) (0 : Int32) s0))) (fun s7 => (if (fy_isRaised s7) = 0 then xl_l ((if (s7 24 0) = (1 : Int32) then (if (s7 25 0) = v6 then (1 : Int32) else (if (s7 24 0) = (2 : Int32) then (if v6 < (s7 25 0) then (0 : Int32) else (1 : Int32)) else (0 : Int32))) else (if (s7 24 0) = (2 : Int32) then (if v6 < (s7 25 0) then (0 : Int32) else (1 : Int32)) else (0 : Int32)))) (fun v9 => xl_l ((if v9 = 0 then (fy_raise (13 : Int32) (fy_codeOf b3 s7) s7) else (if (s7 26 0) = 0 then (fy_raise (11 : Int32) (fy_codeOf b3 s7) s7) else s7))) (fun s10 => xl_l ((if v6 ≤ (s10 20 21) then (0 : Int32) else (1 : Int32))) (fun v11 => (if v11 = 0 then (if (fy_isRaised s10) = 0 then xl_l ((xu_u s10 20 21 v6)) (fun s14 => xl_l ((fy_enter b3 b1 s14)) (fun s15 => xl_l ((xu_u s15 20 20 (v4 &&& (3 : Int32)))) (fun s16 => (if (fy_isRaised s16) = 0 then s16 else s16)))) else s10) else xl_l (fy_popWord s10) (fun r18 => xl_l (fy_popWord r18.2) (fun r19 => xl_l ((fy_outerStack r19.1 v6 r19.2)) (fun s20 => (if (fy_isRaised s20) = 0 then xl_l ((xu_u s20 20 21 v6)) (fun s22 => xl_l ((fy_enter b3 b1 s22)) (fun s23 => xl_l ((xu_u s23 20 20 (v4 &&& (3 : Int32)))) (fun s24 => (if (fy_isRaised s24) = 0 then xl_l ((fy_setSegment (1 : Int32) r19.1 (1 : Int32) s24)) (fun s26 => xl_l ((xu_u s26 20 18 r18.1)) (fun s27 => (if (s27 20 5) = 0 then (if (s27 20 14) = (2 : Int32) then s27 else (if v6 ≤ (s27 20 17) then s27 else xl_l ((fy_setNull (2 : Int32) (0 : Int32) s27)) (fun s31 => s31))) else s27))) else s24)))) else s20)))))))) else s7)))
theorem fb_ce (a1 : Int32) (σ : xs_S) : fr_goBack a1 σ = xp_b (fr_popWord σ) (fun b1 s2 => xp_b (fr_popWord s2) (fun b3 s4 => (if a1 = 0 then fb_c b1 b3 s4 else xp_b (fr_popWord s4) (fun b26 s27 => xl_l ((xu_u s27 3 5 (b26 &&& (3 : Int32)))) (fun s28 => fb_c b1 b3 s28))))) := rfl
theorem fb_ye (a1 : Int32) (τ : xs_S) : fy_returns a1 τ = xl_l (fy_popWord τ) (fun r1 => xl_l (fy_popWord r1.2) (fun r2 => (if a1 = 0 then xl_l ((r2.2 20 20)) (fun v4 => (if (fy_isRaised r2.2) = 0 then fb_y r1.1 r2.1 v4 r2.2 else r2.2)) else xl_l (fy_popWord r2.2) (fun r32 => (if (fy_isRaised r32.2) = 0 then fb_y r1.1 r2.1 r32.1 r32.2 else r32.2))))) := rfl
theorem sv_body {off sel v4 : Int32} (h : zQ zs fc fr wt σ τ) (hs : jr_R sel 65535) (hf : v4 &&& 3 = fc.1) (h3 : jr_R fc.1 3) : zz_Z (fb_c off sel σ) (fb_y off sel v4 τ) (fun (_ : Unit) σ' τ' => zG zs σ' τ' ∧ zX σ σ' τ τ') (fun σ' τ' => zW zs σ' τ' ∧ zX σ σ' τ τ') := by
  unfold fb_c fb_y fr_rplOf
  refine zz_lc (fun v6 e6 => ?_)
  refine zz_lr (fun w6 f6 => ?_)
  obtain rfl : v6 = w6 := e6.trans f6.symm
  have h6 : jr_R v6 3 := by rw [e6]; exact sl_3 sel
  unfold fr_findReturn fr_rplOf
  simp only [xl_b, xp_bb]
  refine zz_lc (fun v1 e1 => ?_)
  subst e1
  refine zz_lc (fun v2 e2 => ?_)
  obtain rfl : v2 = v6 := e2.trans e6.symm
  rw [sl_null (τ := τ) hs]
  by_cases e0 : fy_isNull sel τ = 0
  case neg =>
    rw [if_neg e0]
    refine zz_n e0 ?_
    obtain ⟨q1, q2⟩ := zQ_r h (v := 13) (c := 0) (by decide) (by decide) (by decide) (show (13 : Int32) = nI 13 by decide) (show (0 : Int32) = nI 0 by decide)
    rw [xl_e, if_neg (zW_n q1)]
    exact ⟨q1, zX_F q2 (by decide) (by decide)⟩
  rw [if_pos e0]
  refine zz_p e0 ?_
  rw [zQ_ring h]
  by_cases c1 : τ 20 21 ≤ v2
  case neg =>
    rw [if_neg c1, if_neg c1]
    refine zz_n (by decide) ?_
    obtain ⟨q1, q2⟩ := zQ_rc (σ0 := σ) (τ0 := τ) (v := 13) (v' := 13) h hs (by decide) (by decide) (by decide)
    rw [xl_e, if_neg (zW_n q1)]
    exact ⟨q1, zX_F q2 (by decide) (by decide)⟩
  rw [if_pos c1, if_pos c1]
  refine zz_p rfl ?_
  refine zz_b (zQ_lk (k := 0) h hs (Or.inr (Or.inl rfl))) (fun _ σ1 τ1 q => ?_) (fun σ1 τ1 q => ?_)
  case refine_2 =>
    rw [if_neg (zW_n q.1)]
    exact ⟨q.1, zX_F q.2 (by decide) (by decide)⟩
  obtain ⟨h1, F1, hD, _⟩ := q
  rw [cn_0] at hD
  have X1 : zX σ σ1 τ τ1 := zX_F F1 (by decide) (by decide)
  rw [if_pos (zQ_n h1), hD.2.2.2.1, hD.2.2.2.2.1]
  refine zz_lc (fun v9 e9 => ?_)
  refine zz_lr (fun w9 f9 => ?_)
  obtain rfl : v9 = w9 := e9.trans f9.symm
  have fail : ∀ (v : Nat) (v' : Int32) (g : Int32 × xs_S → Int32 × xs_S → xs_S → xs_S) (k : xs_S → xs_S), 10 ≤ v → v ≤ 14 → v' = nI v → zW zs (xu_u (xu_u σ1 2 0 v') 2 1 (fr_codeOf sel σ)) (xl_l (fy_raise v' (fy_codeOf sel τ1) τ1) (fun s10 => xl_l (if v2 ≤ s10 20 21 then (0 : Int32) else 1) (fun v11 => if v11 = 0 then (if fy_isRaised s10 = 0 then k s10 else s10) else xl_l (fy_popWord s10) (fun r18 => xl_l (fy_popWord r18.2) (fun r19 => xl_l (fy_outerStack r19.1 v2 r19.2) (fun s20 => if fy_isRaised s20 = 0 then g r18 r19 s20 else s20)))))) ∧ zX σ (xu_u (xu_u σ1 2 0 v') 2 1 (fr_codeOf sel σ)) τ (xl_l (fy_raise v' (fy_codeOf sel τ1) τ1) (fun s10 => xl_l (if v2 ≤ s10 20 21 then (0 : Int32) else 1) (fun v11 => if v11 = 0 then (if fy_isRaised s10 = 0 then k s10 else s10) else xl_l (fy_popWord s10) (fun r18 => xl_l (fy_popWord r18.2) (fun r19 => xl_l (fy_outerStack r19.1 v2 r19.2) (fun s20 => if fy_isRaised s20 = 0 then g r18 r19 s20 else s20)))))) := by
    intro v v' g k a b c
    obtain ⟨w1, w2⟩ := zQ_rX (σ0 := σ) (τ0 := τ1) h1 X1 hs a b c
    have hw := zW_n w1
    generalize fy_raise v' (fy_codeOf sel τ1) τ1 = t at w1 w2 hw
    have e : xl_l t (fun s10 => xl_l (if v2 ≤ s10 20 21 then (0 : Int32) else 1) (fun v11 => if v11 = 0 then (if fy_isRaised s10 = 0 then k s10 else s10) else xl_l (fy_popWord s10) (fun r18 => xl_l (fy_popWord r18.2) (fun r19 => xl_l (fy_outerStack r19.1 v2 r19.2) (fun s20 => if fy_isRaised s20 = 0 then g r18 r19 s20 else s20))))) = t := by
      simp only [xl_e, ym_pop hw, ym_outer hw, if_neg hw, ite_self]
    rw [e]
    exact ⟨w1, w2⟩
  by_cases c9 : v9 = 0
  · rw [if_pos (α := xs_S) c9]
    refine zz_n (by simp [c9]) ?_
    exact fail 13 13 (fun r18 r19 s20 => xl_l ((xu_u s20 20 21 v2)) (fun s22 => xl_l ((fy_enter sel off s22)) (fun s23 => xl_l ((xu_u s23 20 20 (v4 &&& (3 : Int32)))) (fun s24 => (if (fy_isRaised s24) = 0 then xl_l ((fy_setSegment (1 : Int32) r19.1 (1 : Int32) s24)) (fun s26 => xl_l ((xu_u s26 20 18 r18.1)) (fun s27 => (if (s27 20 5) = 0 then (if (s27 20 14) = (2 : Int32) then s27 else (if v2 ≤ (s27 20 17) then s27 else xl_l ((fy_setNull (2 : Int32) (0 : Int32) s27)) (fun s31 => s31))) else s27))) else s24))))) _ (by decide) (by decide) (by decide)
  rw [if_neg (α := xs_S) c9]
  refine zz_p (by simp [c9]) ?_
  rw [hD.2.2.2.2.2.2.1]
  by_cases c4 : τ1 26 0 = 0
  · rw [if_pos (α := xs_S) c4]
    refine zz_n (by simp [c4]) ?_
    exact fail 11 11 (fun r18 r19 s20 => xl_l ((xu_u s20 20 21 v2)) (fun s22 => xl_l ((fy_enter sel off s22)) (fun s23 => xl_l ((xu_u s23 20 20 (v4 &&& (3 : Int32)))) (fun s24 => (if (fy_isRaised s24) = 0 then xl_l ((fy_setSegment (1 : Int32) r19.1 (1 : Int32) s24)) (fun s26 => xl_l ((xu_u s26 20 18 r18.1)) (fun s27 => (if (s27 20 5) = 0 then (if (s27 20 14) = (2 : Int32) then s27 else (if v2 ≤ (s27 20 17) then s27 else xl_l ((fy_setNull (2 : Int32) (0 : Int32) s27)) (fun s31 => s31))) else s27))) else s24))))) _ (by decide) (by decide) (by decide)
  rw [if_neg (α := xs_S) c4]
  refine zz_p (by simp [c4]) ?_
  refine zz_lr (fun s10 e10 => ?_)
  subst e10
  rw [xp_s, zQ_ring h1]
  refine zz_lc (fun v11 e11 => ?_)
  refine zz_lr (fun w11 f11 => ?_)
  obtain rfl : v11 = w11 := e11.trans f11.symm
  have hn := sl_n0.mp e0
  by_cases c11 : v11 = 0
  · rw [if_pos c11, if_pos c11, if_pos (zQ_n h1)]
    refine zz_m (sv_retN h1 hD hs hn h6 hf h3) (fun _ σ2 q => ⟨q.1, zX_t X1 q.2⟩) (fun σ2 q => ⟨q.1, zX_t X1 q.2⟩)
  · rw [if_neg c11, if_neg c11]
    refine zz_b (sv_popWord h1) (fun sp σ2 r2 q2 => ?_) (fun σ2 r2 q2 => ?_)
    case refine_2 =>
      have hw := zW_n q2.1
      simp only [xl_e, ym_pop hw, ym_outer hw, if_neg hw]
      exact ⟨q2.1, zX_t X1 (zX_F q2.2 (by decide) (by decide))⟩
    obtain ⟨e2', h2, F2, _⟩ := q2
    refine zz_b (sv_popWord h2) (fun ss σ3 r3 q3 => ?_) (fun σ3 r3 q3 => ?_)
    case refine_2 =>
      have hw := zW_n q3.1
      simp only [xl_e, ym_outer hw, if_neg hw]
      exact ⟨q3.1, zX_t X1 (zX_t (zX_F F2 (by decide) (by decide)) (zX_F q3.2 (by decide) (by decide)))⟩
    obtain ⟨e3', h3', F3, hss⟩ := q3
    rw [e2', e3']
    have X3 : zX σ σ3 τ r3.2 := zX_t X1 (zX_t (zX_F F2 (by decide) (by decide)) (zX_F F3 (by decide) (by decide)))
    refine zz_b (sv_outer h3' hss) (fun _ σ4 τ4 q4 => ?_) (fun σ4 τ4 q4 => ?_)
    case refine_2 =>
      rw [if_neg (zW_n q4.1)]
      exact ⟨q4.1, zX_t X3 (zX_F q4.2 (by decide) (by decide))⟩
    obtain ⟨h4, F4, i4, D4, n4, k4⟩ := q4
    rw [if_pos (zQ_n h4)]
    have X4 : zX σ σ4 τ τ4 := zX_t X3 (zX_F F4 (by decide) (by decide))
    have D3 : zd_D (σ3 14) r3.2 0 sel := zd_F (zd_F hD F2.1 F2.2.1 (by decide) (by decide)) F3.1 F3.2.1 (by decide) (by decide)
    have D14 : zd_D (σ4 14) τ4 0 sel := by
      unfold zd_D
      rw [F4.1 14 (by decide), i4 22 (by decide) 0 (by decide), i4 23 (by decide) 0 (by decide), i4 24 (by decide) 0 (by decide), i4 25 (by decide) 0 (by decide), i4 26 (by decide) 0 (by decide), i4 27 (by decide) 0 (by decide)]
      exact D3
    refine zz_m (sv_retG h4 D14 hs hn h6 hf h3 D4 hss n4 k4) (fun _ σ2 q => ⟨q.1, zX_t X4 q.2⟩) (fun σ2 q => ⟨q.1, zX_t X4 q.2⟩)
theorem a3_e {f : Int32} (h : jr_R f 3) : f &&& 3 = f := by
  obtain ⟨n, hn, rfl⟩ := jr_nat (m := 3) (by decide) h
  rw [pk_andN (by omega) 2 (by decide), Nat.mod_eq_of_lt (by omega)]
theorem sv_goBack {wf f ip : Int32} (h : zQ zs (f, ip) f wt σ τ) (hf : jr_R f 3) : zz_Z (fr_goBack wf σ) (fy_returns wf τ) (fun (_ : Unit) σ' τ' => zG zs σ' τ' ∧ zX σ σ' τ τ') (fun σ' τ' => zW zs σ' τ' ∧ zX σ σ' τ τ') := by
  rw [fb_ce, fb_ye]
  refine zz_b (sv_popWord h) (fun b1 σ1 r1 q1 => ?_) (fun σ1 r1 q1 => ?_)
  case refine_2 =>
    have hw := zW_n q1.1
    simp only [xl_e, ym_pop hw, if_neg hw, ite_self]
    exact ⟨q1.1, zX_F q1.2 (by decide) (by decide)⟩
  obtain ⟨e1, h1, F1, _⟩ := q1
  have X1 : zX σ σ1 τ r1.2 := zX_F F1 (by decide) (by decide)
  refine zz_b (sv_popWord h1) (fun b3 σ2 r2 q2 => ?_) (fun σ2 r2 q2 => ?_)
  case refine_2 =>
    have hw := zW_n q2.1
    simp only [xl_e, ym_pop hw, if_neg hw, ite_self]
    exact ⟨q2.1, zX_t X1 (zX_F q2.2 (by decide) (by decide))⟩
  obtain ⟨e2, h2, F2, hs⟩ := q2
  have X2 : zX σ σ2 τ r2.2 := zX_t X1 (zX_F F2 (by decide) (by decide))
  rw [e1, e2]
  by_cases cw : wf = 0
  · rw [if_pos cw, if_pos cw]
    refine zz_lr (fun v4 e4 => ?_)
    rw [if_pos (zQ_n h2)]
    have e4' : v4 = f := e4.trans h2.2.2.1.2.2
    refine zz_m (sv_body (v4 := v4) h2 hs (by rw [e4']; exact a3_e hf) hf) (fun _ σ3 q => ⟨q.1, zX_t X2 q.2⟩) (fun σ3 q => ⟨q.1, zX_t X2 q.2⟩)
  · rw [if_neg cw, if_neg cw]
    refine zz_b (sv_popWord h2) (fun b26 σ3 r3 q3 => ?_) (fun σ3 r3 q3 => ?_)
    case refine_2 =>
      rw [if_neg (zW_n q3.1)]
      exact ⟨q3.1, zX_t X2 (zX_F q3.2 (by decide) (by decide))⟩
    obtain ⟨e3, h3, F3, _⟩ := q3
    rw [if_pos (zQ_n h3), e3]
    have X3 : zX σ σ3 τ r3.2 := zX_t X2 (zX_F F3 (by decide) (by decide))
    refine zz_lc (fun s28 e28 => ?_)
    have h28 : zQ zs (b26 &&& 3, ip) f wt s28 r3.2 := by rw [e28]; exact zQ_fc h3
    have X28 : zX σ s28 τ r3.2 := by rw [e28]; exact ⟨zf_u X3.1 (by decide), X3.2⟩
    refine zz_m (sv_body (v4 := b26) h28 hs rfl (sl_3 b26)) (fun _ σ3 q => ⟨q.1, zX_t X28 q.2⟩) (fun σ3 q => ⟨q.1, zX_t X28 q.2⟩)
end ZH
