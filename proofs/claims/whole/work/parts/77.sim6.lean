/-! Segments are loaded; the target of a gate is found. -/
variable {zs : Int32}
abbrev zl_C : List Nat := [1, 2, 3, 4, 5, 6, 7, 8, 9, 10, 11, 12, 13, 14, 15, 16, 17]
abbrev zl_Y : List Nat := [18, 19, 20, 21, 22, 23, 24, 25, 26, 27, 28]
def zX (σ σ' τ τ' : xs_S) : Prop := zf_F zl_C σ σ' ∧ zf_F zl_Y τ τ'
theorem zX_r {σ τ : xs_S} : zX σ σ τ τ := ⟨zf_r, zf_r⟩
theorem zX_t {σ σ1 σ2 τ τ1 τ2 : xs_S} (h1 : zX σ σ1 τ τ1) (h2 : zX σ1 σ2 τ1 τ2) : zX σ σ2 τ τ2 := ⟨zf_t h1.1 h2.1, zf_t h1.2 h2.2⟩
theorem zX_F {lc lr : List Nat} {σ σ' τ τ' : xs_S} (h : zF lc lr σ σ' τ τ') (h1 : ∀ i ∈ lc, i ∈ zl_C) (h2 : ∀ i ∈ lr, i ∈ zl_Y) : zX σ σ' τ τ' := ⟨zf_m h.1 h1, zf_m h.2.1 h2⟩
theorem zX_f {lc lr : List Nat} {σ σ' τ τ' : xs_S} (h : zf_F lc σ σ' ∧ zf_F lr τ τ') (h1 : ∀ i ∈ lc, i ∈ zl_C) (h2 : ∀ i ∈ lr, i ∈ zl_Y) : zX σ σ' τ τ' := ⟨zf_m h.1 h1, zf_m h.2 h2⟩
section ZT
variable {fc : Int32 × Int32} {fr wt : Int32} {σ τ : xs_S}
theorem zQ_rc {sel v' : Int32} {v : Nat} {σ0 τ0 : xs_S} (h : zQ zs fc fr wt σ τ) (hs : jr_R sel 65535) (hv1 : 10 ≤ v) (hv2 : v ≤ 14) (ev : v' = nI v) : zW zs (xu_u (xu_u σ 2 0 v') 2 1 (fr_codeOf sel σ0)) (fy_raise v' (fy_codeOf sel τ0) τ) ∧ zF [2, 12] [18, 19] σ (xu_u (xu_u σ 2 0 v') 2 1 (fr_codeOf sel σ0)) τ (fy_raise v' (fy_codeOf sel τ0) τ) := by
  obtain ⟨h1, cd, hcd, _, h2⟩ := sl_code (σ := σ0) (τ := τ0) hs
  rw [h1]
  exact zQ_r h hv1 hv2 hcd ev h2
theorem zQ_rX {sel v' : Int32} {v : Nat} {σ0 τ0 σa τa : xs_S} (h : zQ zs fc fr wt σ τ) (hX : zX σa σ τa τ) (hs : jr_R sel 65535) (hv1 : 10 ≤ v) (hv2 : v ≤ 14) (ev : v' = nI v) : zW zs (xu_u (xu_u σ 2 0 v') 2 1 (fr_codeOf sel σ0)) (fy_raise v' (fy_codeOf sel τ0) τ) ∧ zX σa (xu_u (xu_u σ 2 0 v') 2 1 (fr_codeOf sel σ0)) τa (fy_raise v' (fy_codeOf sel τ0) τ) := by
  obtain ⟨q1, q2⟩ := zQ_rc (σ0 := σ0) (τ0 := τ0) h hs hv1 hv2 ev
  exact ⟨q1, zX_t hX (zX_F q2 (by decide) (by decide))⟩
theorem zQ_ring (h : zQ zs fc fr wt σ τ) : σ 3 6 = τ 20 21 := h.1.2.2.2.2.2
theorem sv_loadStack {a1 : Int32} (h : zQ zs fc fr wt σ τ) (hs : jr_R a1 65535) : zz_Z (fr_loadStack a1 σ) (fy_loadStack a1 τ) (fun _ σ' τ' => zQ zs fc fr wt σ' τ' ∧ zX σ σ' τ τ') (fun σ' τ' => zW zs σ' τ' ∧ zX σ σ' τ τ') := by
  unfold fr_loadStack fy_loadStack
  refine zz_lc (fun v1 e1 => ?_)
  subst e1
  refine sv_sel (k := 0) (v := 13) (cd := 0) h hs (Or.inr (Or.inr rfl)) (by decide) (by decide) (by decide) (by decide) (by decide) (fun σ1 τ1 h1 hF hD hn => ?_) (fun σ1 τ1 h1 hF => ?_)
  · replace hD := hD.1
    rw [cn_0] at hD
    have hX : zX σ σ1 τ τ1 := zX_F hF (by decide) (by decide)
    rw [if_pos (zQ_n h1)]
    unfold fr_rplOf
    rw [zQ_ring h1, hD.2.2.2.1, hD.2.2.2.2.1]
    by_cases c1 : a1 &&& 3 = τ1 20 21
    · by_cases c2 : τ1 25 0 = τ1 20 21
      · by_cases c3 : τ1 24 0 = 4
        · simp only [if_pos c1, if_pos c2, if_pos c3]
          refine zz_lc (fun v6 e6 => ?_)
          subst e6
          refine zz_p (by decide) ?_
          rw [hD.2.2.2.2.2.2.1]
          by_cases c4 : τ1 26 0 = 0
          · simp only [if_pos c4]
            refine zz_n (by decide) ?_
            rw [xl_e]
            exact zQ_rX h1 hX hs (v := 12) (by decide) (by decide) (by decide)
          · simp only [if_neg c4]
            refine zz_p rfl ?_
            have hI : zI 1 5 1 := Or.inr (Or.inl ⟨rfl, rfl, rfl⟩)
            refine zz_lc (fun s11 e11 => ?_)
            refine zz_lr (fun s12 e12 => ?_)
            subst e11 e12
            exact zz_s ⟨zQ_set hI (Or.inr (Or.inr rfl)) h1 (by rw [cn_0]; exact hD) hs hn (fun _ => hD.2.2.2.1.trans c3), zX_t hX (zX_F (zs_F (lc := [5]) (lr := [20]) (zF_r (σ := σ1) (τ := τ1)) hI (by decide) (by decide)) (by decide) (by decide))⟩
        · simp only [if_pos c1, if_pos c2, if_neg c3]
          refine zz_lc (fun v6 e6 => ?_)
          subst e6
          refine zz_n (by decide) ?_
          rw [xl_e]
          exact zQ_rX h1 hX hs (v := 13) (by decide) (by decide) (by decide)
      · simp only [if_pos c1, if_neg c2]
        refine zz_lc (fun v6 e6 => ?_)
        subst e6
        refine zz_n (by decide) ?_
        rw [xl_e]
        exact zQ_rX h1 hX hs (v := 13) (by decide) (by decide) (by decide)
    · simp only [if_neg c1]
      refine zz_lc (fun v6 e6 => ?_)
      subst e6
      refine zz_n (by decide) ?_
      rw [xl_e]
      exact zQ_rX h1 hX hs (v := 13) (by decide) (by decide) (by decide)
  · rw [if_neg (zW_n h1)]
    exact ⟨h1, zX_F hF (by decide) (by decide)⟩
theorem rd_16 : ∀ n, n < 16 → (if (if nI n = 1 then (1 : Int32) else if nI n = 2 then 1 else 0) = 0 then (if nI n = 3 then (1 : Int32) else if nI n = 4 then 1 else 0) else 1) = (if nI n < 1 then (0 : Int32) else if 4 < nI n then 0 else 1) := by decide +kernel
theorem rd_e {c : Nat} (h : jr_R (σ c 3) 15) : fd_isReadable c σ = (if σ c 3 < 1 then (0 : Int32) else if 4 < σ c 3 then 0 else 1) := by
  obtain ⟨n, hn, e⟩ := jr_nat (m := 15) (by decide) h
  unfold fd_isReadable fd_isCode
  rw [e]
  exact rd_16 n (by omega)
theorem cl_0 (c : Nat) (σ : xs_S) : fd_clear c σ c 0 = 0 ∧ fd_clear c σ c 1 = 0 ∧ fd_clear c σ c 2 = 0 ∧ fd_clear c σ c 3 = 0 ∧ fd_clear c σ c 4 = 0 := by
  refine ⟨?_, ?_, ?_, ?_, ?_⟩
  · simp [fd_clear, fd_decode, xl_l, xu_u]
  · have : fd_clear c σ c 1 = (0 : Int64).toInt32 &&& 65535 := by simp [fd_clear, fd_decode, xl_l, xu_u]
    rw [this]; decide
  · have : fd_clear c σ c 2 = (((((0 : Int64)).toUInt64 >>> (((16 : Int32)).toInt64.toUInt64 &&& Int64.toUInt64 63)).toInt64)).toInt32 &&& 65535 := by simp [fd_clear, fd_decode, xl_l, xu_u]
    rw [this]; decide
  · have : fd_clear c σ c 3 = (((((0 : Int64)).toUInt64 >>> (((32 : Int32)).toInt64.toUInt64 &&& Int64.toUInt64 63)).toInt64)).toInt32 &&& 15 := by simp [fd_clear, fd_decode, xl_l, xu_u]
    rw [this]; decide
  · have : fd_clear c σ c 4 = (((((0 : Int64)).toUInt64 >>> (((40 : Int32)).toInt64.toUInt64 &&& Int64.toUInt64 63)).toInt64)).toInt32 &&& 3 := by simp [fd_clear, fd_decode, xl_l, xu_u]
    rw [this]; decide
theorem cl_F {l : List Nat} {c : Nat} {σ' : xs_S} (h : zf_F l σ σ') (hc : c ∈ l) : zf_F l σ (fd_clear c σ') := fd_F h hc
theorem zQ_nullds {a1 : Int32} (h : zQ zs fc fr wt σ τ) (hs : jr_R a1 65535) (hn : a1 < 4) : zQ zs fc fr wt (xu_u (fd_clear 6 σ) 6 0 a1) (fy_setNull 2 a1 τ) ∧ zX σ (xu_u (fd_clear 6 σ) 6 0 a1) τ (fy_setNull 2 a1 τ) := by
  rw [sn_e (d := 6) (k := 2) (Or.inr (Or.inr ⟨rfl, rfl, rfl⟩))]
  obtain ⟨_, z1, z2, z3, z4⟩ := cl_0 6 σ
  obtain ⟨q1, ⟨a0, a1, a2, a3, a4⟩, q3⟩ := h
  exact ⟨⟨q1, ⟨a0, a1, ⟨rfl, hs, Or.inl ⟨rfl, hn, z1, z2, z3, z4⟩⟩, a3, a4⟩, q3⟩, zf_u (cl_F zf_r (by decide)) (by decide), zf_u (zf_u zf_r (by decide)) (by decide)⟩
theorem sv_loadData {a1 : Int32} (h : zQ zs fc fr wt σ τ) (hs : jr_R a1 65535) : zz_Z (fr_loadData a1 σ) (fy_loadData a1 τ) (fun _ σ' τ' => zQ zs fc fr wt σ' τ' ∧ zX σ σ' τ τ') (fun σ' τ' => zW zs σ' τ' ∧ zX σ σ' τ τ') := by
  unfold fr_loadData fy_loadData
  rw [sl_null (τ := τ) hs]
  by_cases e0 : fy_isNull a1 τ = 0
  · rw [if_pos e0, if_pos e0]
    refine zz_lc (fun v2 e2 => ?_)
    subst e2
    refine zz_b (zQ_lk (k := 0) h hs (Or.inr (Or.inl rfl))) (fun _ σ1 τ1 q => ?_) (fun σ1 τ1 q => ?_)
    · obtain ⟨h1, hF, hD, _⟩ := q
      rw [cn_0] at hD
      have hX : zX σ σ1 τ τ1 := zX_F hF (by decide) (by decide)
      rw [if_pos (zQ_n h1)]
      refine zz_lr (fun v4 e4 => ?_)
      subst e4
      unfold fr_rplOf
      rw [rd_e hD.2.2.2.2.2.2.2.2.1, zQ_ring h1, hD.2.2.2.1, hD.2.2.2.2.1]
      have hv : ∃ b : Bool, (if τ1 24 0 = 2 then (1 : Int32) else if τ1 25 0 < τ1 20 21 then 0 else if τ1 25 0 < a1 &&& 3 then 0 else 1) = (if b then 1 else 0) ∧ (if τ1 24 0 = 2 then (0 : Int32) else if τ1 25 0 < τ1 20 21 then 1 else if a1 &&& 3 ≤ τ1 25 0 then 0 else 1) = (if b then 0 else 1) := by
        by_cases c1 : τ1 24 0 = 2
        · exact ⟨true, by simp [c1], by simp [c1]⟩
        · by_cases c2 : τ1 25 0 < τ1 20 21
          · exact ⟨false, by simp [c1, c2], by simp [c1, c2]⟩
          · by_cases c3 : a1 &&& 3 ≤ τ1 25 0
            · exact ⟨true, by simp only [if_neg c1, if_neg c2, if_neg (Int32.not_lt.mpr c3)]; rfl, by simp only [if_neg c1, if_neg c2, if_pos c3]; rfl⟩
            · exact ⟨false, by simp only [if_neg c1, if_neg c2, if_pos (Int32.not_le.mp c3)]; rfl, by simp only [if_neg c1, if_neg c2, if_neg c3]; rfl⟩
      obtain ⟨b, hb1, hb2⟩ := hv
      rw [hb1, hb2]
      refine zz_lc (fun v5 e5 => ?_)
      refine zz_lr (fun w5 f5 => ?_)
      subst e5 f5
      by_cases c1 : τ1 24 0 < 1
      · rw [if_pos (α := xs_S) c1]
        refine zz_n (by simp [c1]) ?_
        rw [xl_e]
        exact zQ_rX h1 hX hs (v := 13) (by decide) (by decide) (by decide)
      · by_cases c2 : 4 < τ1 24 0
        · rw [if_neg (α := xs_S) c1, if_pos (α := xs_S) c2]
          refine zz_n (by simp [c1, c2]) ?_
          rw [xl_e]
          exact zQ_rX h1 hX hs (v := 13) (by decide) (by decide) (by decide)
        · simp only [if_neg c1, if_neg c2]
          cases b with
          | false =>
            refine zz_n (by decide) ?_
            exact zQ_rX h1 hX hs (v := 13) (by decide) (by decide) (by decide)
          | true =>
            refine zz_p (by decide) ?_
            rw [hD.2.2.2.2.2.2.1]
            show zz_Z _ (if τ1 26 0 = 0 then _ else _) _ _
            by_cases c4 : τ1 26 0 = 0
            · simp only [if_pos c4]
              refine zz_n (by decide) ?_
              rw [xl_e]
              exact zQ_rX h1 hX hs (v := 11) (by decide) (by decide) (by decide)
            · simp only [if_neg c4]
              refine zz_p rfl ?_
              have hI : zI 2 6 2 := Or.inr (Or.inr ⟨rfl, rfl, rfl⟩)
              refine zz_lc (fun s11 e11 => ?_)
              refine zz_lr (fun s12 e12 => ?_)
              subst e11 e12
              exact zz_s ⟨zQ_set hI (Or.inr (Or.inl rfl)) h1 (by rw [cn_0]; exact hD) hs (sl_n0.mp e0) (fun q => absurd q (by decide)), zX_t hX (zX_F (zs_F (lc := [6]) (lr := [20]) (zF_r (σ := σ1) (τ := τ1)) hI (by decide) (by decide)) (by decide) (by decide))⟩
    · rw [if_neg (zW_n q.1)]
      exact ⟨q.1, zX_F q.2 (by decide) (by decide)⟩
  · rw [if_neg e0, if_neg e0]
    refine zz_lc (fun s11 e11 => ?_)
    refine zz_lc (fun s12 e12 => ?_)
    refine zz_lr (fun s15 e15 => ?_)
    subst e11 e12 e15
    exact zz_s (zQ_nullds h hs (Classical.not_not.mp (fun q => e0 (sl_n0.mpr q))))
theorem en_e {c : Nat} {sel : Int32} (hr : σ 3 6 = τ 20 21) (hD : zd_D (σ c) τ 0 sel) : fr_mayBeEntered c σ = fy_isDirect τ := by
  unfold fr_mayBeEntered fy_isDirect
  rw [hr, hD.2.2.2.1, hD.2.2.2.2.1]
/-- the first half of the reference's way through a gate -/
def ft_y (a1 a4 : Int32) (τ : xs_S) : xs_S := xl_l ((if (fy_isNull a1 τ) = 0 then (fy_lookUp a1 (0 : Int32) τ) else (fy_raise (13 : Int32) (0 : Int32) τ))) (fun s1 => (if (fy_isRaised s1) = 0 then xl_l ((if (s1 24 0) = (1 : Int32) then (if (s1 20 21) < (s1 25 0) then (0 : Int32) else (1 : Int32)) else (if (s1 24 0) = (2 : Int32) then (if (s1 20 21) < (s1 25 0) then (0 : Int32) else (1 : Int32)) else (0 : Int32)))) (fun v3 => (if a4 = 0 then (if v3 = 0 then (fy_raise (13 : Int32) (fy_codeOf a1 s1) s1) else (if (s1 26 0) = 0 then (fy_raise (11 : Int32) (fy_codeOf a1 s1) s1) else s1)) else (if (fy_isDirect s1) = 0 then (fy_raise (13 : Int32) (fy_codeOf a1 s1) s1) else (if (s1 26 0) = 0 then (fy_raise (11 : Int32) (fy_codeOf a1 s1) s1) else s1)))) else s1))
def ft_z (a1 a2 a3 a4 a5 a6 : Int32) (s4 : xs_S) : xs_S := xl_l ((s4 20 0)) (fun v6 => xl_l ((if a4 = 0 then (if (s4 24 0) = (1 : Int32) then (if (s4 20 21) ≤ (s4 25 0) then (if a5 = 0 then (fy_pushWord a6 (fy_pushWord v6 s4)) else (fy_pushWord a6 (fy_pushWord v6 (fy_pushWord (s4 20 20) s4)))) else (if a5 = 0 then (fy_pushWord a6 (fy_pushWord v6 (fy_inner (s4 25 0) a3 s4))) else (fy_pushWord a6 (fy_pushWord v6 (fy_pushWord ((fy_inner (s4 25 0) a3 s4) 20 20) (fy_inner (s4 25 0) a3 s4)))))) else (if a5 = 0 then (fy_pushWord a6 (fy_pushWord v6 s4)) else (fy_pushWord a6 (fy_pushWord v6 (fy_pushWord (s4 20 20) s4))))) else s4)) (fun s7 => xl_l ((fy_enter a1 a2 s7)) (fun s8 => s8)))
theorem ft_e (a1 a2 a3 a4 a5 a6 : Int32) (τ : xs_S) : fy_through a1 a2 a3 a4 a5 a6 τ = xl_l (ft_y a1 a4 τ) (fun s4 => if fy_isRaised s4 = 0 then ft_z a1 a2 a3 a4 a5 a6 s4 else s4) := by
  unfold fy_through ft_y
  simp only [xl_e]
  generalize (if (fy_isNull a1 τ) = 0 then (fy_lookUp a1 (0 : Int32) τ) else (fy_raise (13 : Int32) (0 : Int32) τ)) = s1
  by_cases e : fy_isRaised s1 = 0
  · simp only [if_pos e]
    rfl
  · simp only [if_neg e]
theorem sv_findTarget {a1 cl jp : Int32} (h : zQ zs fc fr wt σ τ) (ha : σ 13 2 = a1) (hs : jr_R a1 65535) (hj : cl = 0 ↔ ¬ jp = 0) : zz_Z (fr_findTarget cl σ) (ft_y a1 jp τ) (fun _ σ' τ' => zQ zs fc fr wt σ' τ' ∧ zF [2, 12, 14] zl_R σ σ' τ τ' ∧ zd_D (σ' 14) τ' 0 a1 ∧ ¬ a1 < 4) (fun σ' τ' => zW zs σ' τ' ∧ zF [2, 12, 14] zl_R σ σ' τ τ') := by
  unfold fr_findTarget ft_y
  refine zz_lc (fun v1 e1 => ?_)
  rw [ha] at e1
  subst e1
  refine sv_sel (k := 0) (v := 13) (cd := 0) h hs (Or.inr (Or.inl rfl)) (by decide) (by decide) (by decide) (by decide) (by decide) (fun σ1 τ1 h1 hF hD hn => ?_) (fun σ1 τ1 h1 hF => ?_)
  · replace hD := hD.1
    rw [cn_0] at hD
    rw [if_pos (zQ_n h1)]
    have key : ∀ x y : Int32, y = x → zz_Z (xp_b (fx_refuse (if x = 0 then 1 else 0) 13 (fr_codeOf v1 σ1) σ1) (fun _ s8 => xp_b (fx_refuse (if s8 14 6 = 0 then 1 else 0) 11 (fr_codeOf v1 s8) s8) (fun _ s10 => (some (), s10)))) (if y = 0 then fy_raise 13 (fy_codeOf v1 τ1) τ1 else if τ1 26 0 = 0 then fy_raise 11 (fy_codeOf v1 τ1) τ1 else τ1) (fun (_ : Unit) σ' τ' => zQ zs fc fr wt σ' τ' ∧ zF [2, 12, 14] zl_R σ σ' τ τ' ∧ zd_D (σ' 14) τ' 0 v1 ∧ ¬ v1 < 4) (fun σ' τ' => zW zs σ' τ' ∧ zF [2, 12, 14] zl_R σ σ' τ τ') := by
      intro x y hxy
      subst hxy
      by_cases c1 : y = 0
      · simp only [if_pos c1]
        refine zz_n (by decide) ?_
        obtain ⟨q1, q2⟩ := zQ_rc (σ0 := σ1) (τ0 := τ1) (v := 13) (v' := 13) h1 hs (by decide) (by decide) (by decide)
        exact ⟨q1, zF_t hF (zF_m q2 (by decide) (by decide))⟩
      · simp only [if_neg c1]
        refine zz_p rfl ?_
        rw [hD.2.2.2.2.2.2.1]
        by_cases c4 : τ1 26 0 = 0
        · simp only [if_pos c4]
          refine zz_n (by decide) ?_
          obtain ⟨q1, q2⟩ := zQ_rc (σ0 := σ1) (τ0 := τ1) (v := 11) (v' := 11) h1 hs (by decide) (by decide) (by decide)
          exact ⟨q1, zF_t hF (zF_m q2 (by decide) (by decide))⟩
        · simp only [if_neg c4]
          refine zz_p rfl ?_
          exact zz_s ⟨h1, hF, hD, hn⟩
    refine zz_lc (fun v6 e6 => ?_)
    refine zz_lr (fun v3 e3 => ?_)
    by_cases c0 : jp = 0
    · rw [if_pos c0]
      refine key v6 v3 ?_
      rw [e6, e3, if_neg (fun q => hj.mp q c0)]
      unfold fd_isCode
      rw [zQ_ring h1, hD.2.2.2.1, hD.2.2.2.2.1]
      by_cases k1 : τ1 24 0 = 1
      · simp only [if_pos k1]
        rfl
      · simp only [if_neg k1]
        by_cases k2 : τ1 24 0 = 2
        · simp only [if_pos k2]
          rfl
        · simp only [if_neg k2]
          rfl
    · rw [if_neg c0]
      refine key v6 (fy_isDirect τ1) ?_
      rw [e6, if_pos (hj.mpr c0)]
      exact (en_e (zQ_ring h1) hD).symm
  · rw [if_neg (zW_n h1)]
    exact ⟨h1, hF⟩
end ZT
