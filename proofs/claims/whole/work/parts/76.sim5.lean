/-! Segments are set, code is entered. -/
variable {zs : Int32}
theorem ss_e {s sel kk : Int32} {d k : Nat} (hI : zI s d k) (τ : xs_S) : fy_setSegment s sel kk τ = xu_u (xu_u (xu_u (xu_u (xu_u (xu_u τ 20 k sel) 20 (3 + k) 0) 20 (6 + k) (τ 22 kk.toNatClampNeg)) 20 (9 + k) (τ 23 kk.toNatClampNeg)) 20 (12 + k) (τ 24 kk.toNatClampNeg)) 20 (15 + k) (τ 25 kk.toNatClampNeg) := by
  obtain ⟨n0, n3, n6, n9, n12, n15⟩ := zI_n hI
  unfold fy_setSegment
  rw [n0, n3, n6, n9, n12, n15]
  rfl
theorem sn_e {s sel : Int32} {d k : Nat} (hI : zI s d k) (τ : xs_S) : fy_setNull s sel τ = xu_u (xu_u τ 20 k sel) 20 (3 + k) 1 := by
  obtain ⟨n0, n3, _⟩ := zI_n hI
  unfold fy_setNull
  rw [n0, n3]
  rfl
theorem fc_F {l : List Nat} {d c : Nat} {σ σ' : xs_S} (h : zf_F l σ σ') (hd : d ∈ l) : zf_F l σ (fd_copy d c σ') := zf_u (zf_u (zf_u (zf_u (zf_u (zf_u (zf_u h hd) hd) hd) hd) hd) hd) hd
theorem zr_set {s sel kk : Int32} {d k c : Nat} {σ τ : xs_S} (hI : zI s d k) (hc : c = 13 ∨ c = 14 ∨ c = 15) (hR : zr_R (σ 3) (σ 4) (σ 5) (σ 6) (τ 20)) (hD : zd_D (σ c) τ kk.toNatClampNeg sel) (hs : jr_R sel 65535) (hn : ¬ sel < 4) (h4 : s = 1 → σ c 3 = 4) : zr_R (fd_copy d c σ 3) (fd_copy d c σ 4) (fd_copy d c σ 5) (fd_copy d c σ 6) (fy_setSegment s sel kk τ 20) := by
  rw [ss_e hI]
  obtain ⟨rfl, d1, d2, d3, d4, _⟩ := hD
  obtain ⟨a0, a1, a2, a3, a4⟩ := hR
  rcases hI with ⟨rfl, rfl, rfl⟩ | ⟨rfl, rfl, rfl⟩ | ⟨rfl, rfl, rfl⟩ <;> rcases hc with rfl | rfl | rfl
  · exact ⟨⟨rfl, hs, Or.inr ⟨rfl, hn, d1, d2, d3, d4⟩⟩, a1, a2, a3, a4⟩
  · exact ⟨⟨rfl, hs, Or.inr ⟨rfl, hn, d1, d2, d3, d4⟩⟩, a1, a2, a3, a4⟩
  · exact ⟨⟨rfl, hs, Or.inr ⟨rfl, hn, d1, d2, d3, d4⟩⟩, a1, a2, a3, a4⟩
  · exact ⟨a0, ⟨rfl, hs, Or.inr ⟨rfl, hn, d1, d2, d3, d4⟩⟩, a2, fun _ => h4 rfl, a4⟩
  · exact ⟨a0, ⟨rfl, hs, Or.inr ⟨rfl, hn, d1, d2, d3, d4⟩⟩, a2, fun _ => h4 rfl, a4⟩
  · exact ⟨a0, ⟨rfl, hs, Or.inr ⟨rfl, hn, d1, d2, d3, d4⟩⟩, a2, fun _ => h4 rfl, a4⟩
  · exact ⟨a0, a1, ⟨rfl, hs, Or.inr ⟨rfl, hn, d1, d2, d3, d4⟩⟩, a3, a4⟩
  · exact ⟨a0, a1, ⟨rfl, hs, Or.inr ⟨rfl, hn, d1, d2, d3, d4⟩⟩, a3, a4⟩
  · exact ⟨a0, a1, ⟨rfl, hs, Or.inr ⟨rfl, hn, d1, d2, d3, d4⟩⟩, a3, a4⟩
theorem zs_F {s sel kk : Int32} {d k c : Nat} {lc lr : List Nat} {σ σ' τ τ' : xs_S} (h : zF lc lr σ σ' τ τ') (hI : zI s d k) (hd : d ∈ lc) (h20 : 20 ∈ lr) : zF lc lr σ (fd_copy d c σ') τ (fy_setSegment s sel kk τ') := by
  rw [ss_e hI]
  exact ⟨fc_F h.1 hd, (zF_y (zF_y (zF_y (zF_y (zF_y (zF_y h h20 (by decide)) h20 (by decide)) h20 (by decide)) h20 (by decide)) h20 (by decide)) h20 (by decide)).2⟩
section ZS
variable {fc : Int32 × Int32} {fr wt : Int32} {σ τ : xs_S}
theorem zQ_set {s sel kk : Int32} {d k c : Nat} (hI : zI s d k) (hc : c = 13 ∨ c = 14 ∨ c = 15) (h : zQ zs fc fr wt σ τ) (hD : zd_D (σ c) τ kk.toNatClampNeg sel) (hs : jr_R sel 65535) (hn : ¬ sel < 4) (h4 : s = 1 → σ c 3 = 4) : zQ zs fc fr wt (fd_copy d c σ) (fy_setSegment s sel kk τ) := by
  refine ⟨?_, zr_set hI hc h.2.1 hD hs hn h4, ?_⟩
  · rw [ss_e hI]
    rcases hI with ⟨rfl, rfl, rfl⟩ | ⟨rfl, rfl, rfl⟩ | ⟨rfl, rfl, rfl⟩ <;> exact h.1
  · rw [ss_e hI]
    rcases hI with ⟨rfl, rfl, rfl⟩ | ⟨rfl, rfl, rfl⟩ | ⟨rfl, rfl, rfl⟩ <;> exact h.2.2
theorem sv_enter {sel off : Int32} {c : Nat} (hc : c = 13 ∨ c = 14) (h : zQ zs fc fr wt σ τ) (hD : zd_D (σ c) τ 0 sel) (hs : jr_R sel 65535) (hn : ¬ sel < 4) : zz_Z (fr_enter c off σ) (fy_enter sel off τ) (fun _ σ' τ' => zQ zs (fc.1, off) fr 1 σ' τ' ∧ zf_F [2, 3, 4, 12] σ σ' ∧ zf_F [18, 19, 20] τ τ') (fun σ' τ' => zW zs σ' τ' ∧ zf_F [2, 3, 4, 12] σ σ' ∧ zf_F [18, 19, 20] τ τ') := by
  unfold fr_enter fy_enter
  rw [if_pos (zQ_n h), hD.2.2.1]
  by_cases e : off ≤ τ 23 0
  · rw [if_pos e, if_pos e]
    refine zz_p rfl ?_
    obtain ⟨r1, r2, r3⟩ := sl_sum (σ := σ) (τ := τ) (x := sel) (r := σ 3 6) hs h.2.1.2.2.2.2.2.2.1.2
    have hring : σ 3 6 = τ 20 21 := h.2.1.2.2.2.2.2.2.1.1
    rw [hring] at r1 r2 r3
    rw [ss_e (d := 4) (k := 0) (Or.inl ⟨rfl, rfl, rfl⟩)]
    have hsel := hD.1
    obtain ⟨_, d1, d2, d3, d4, _⟩ := hD
    obtain ⟨q1, ⟨a0, a1, a2, a3, a4, a5, a6⟩, q3, q4, q5⟩ := h
    rcases hc with rfl | rfl
    · refine zz_s ⟨⟨q1, ⟨⟨?_, ?_, Or.inr ⟨rfl, ?_, d1, d2, d3, d4⟩⟩, a1, a2, a3, a4, rfl, a6⟩, ⟨q3.1, rfl, q3.2.2⟩, ⟨q4.1, rfl⟩, q5⟩, ?_, ?_⟩
      · show fr_codeOf (σ 13 0) _ + σ 3 6 = fy_codeOf sel τ ||| τ 20 21
        rw [hsel, hring]
        exact r1
      · show jr_R (fr_codeOf (σ 13 0) σ + σ 3 6) 65535
        rw [hsel, hring, r1]
        exact r2
      · show ¬ fr_codeOf (σ 13 0) σ + σ 3 6 < 4
        rw [hsel, hring, r1]
        exact r3 hn
      · exact zf_u (zf_u (fc_F zf_r (by decide)) (by decide)) (by decide)
      · exact zf_u (zf_u (zf_u (zf_u (zf_u (zf_u (zf_u (zf_u zf_r (by decide)) (by decide)) (by decide)) (by decide)) (by decide)) (by decide)) (by decide)) (by decide)
    · refine zz_s ⟨⟨q1, ⟨⟨?_, ?_, Or.inr ⟨rfl, ?_, d1, d2, d3, d4⟩⟩, a1, a2, a3, a4, rfl, a6⟩, ⟨q3.1, rfl, q3.2.2⟩, ⟨q4.1, rfl⟩, q5⟩, ?_, ?_⟩
      · show fr_codeOf (σ 14 0) _ + σ 3 6 = fy_codeOf sel τ ||| τ 20 21
        rw [hsel, hring]
        exact r1
      · show jr_R (fr_codeOf (σ 14 0) σ + σ 3 6) 65535
        rw [hsel, hring, r1]
        exact r2
      · show ¬ fr_codeOf (σ 14 0) σ + σ 3 6 < 4
        rw [hsel, hring, r1]
        exact r3 hn
      · exact zf_u (zf_u (fc_F zf_r (by decide)) (by decide)) (by decide)
      · exact zf_u (zf_u (zf_u (zf_u (zf_u (zf_u (zf_u (zf_u zf_r (by decide)) (by decide)) (by decide)) (by decide)) (by decide)) (by decide)) (by decide)) (by decide)
  · rw [if_neg e, if_neg e]
    refine zz_n (by decide) ?_
    rw [xl_e]
    have hW := zQ_r h (v := 13) (c := 0) (by decide) (by decide) (by decide) (show (13 : Int32) = nI 13 by decide) (show (0 : Int32) = nI 0 by decide)
    exact ⟨hW.1, zf_m hW.2.1 (by decide), zf_m hW.2.2.1 (by decide)⟩
theorem ym_push {v : Int32} (h : ¬ fy_isRaised τ = 0) : fy_pushWord v τ = τ := by
  unfold fy_pushWord
  rw [if_neg h]
theorem ym_enter {a b : Int32} (h : ¬ fy_isRaised τ = 0) : fy_enter a b τ = τ := by
  unfold fy_enter
  rw [if_neg h]
theorem ym_pop (h : ¬ fy_isRaised τ = 0) : fy_popWord τ = (0, τ) := by
  unfold fy_popWord
  rw [if_neg h]
/-- the ref's let is opened -/
theorem zz_o {α β γ : Type} {Φ : α → xs_S → β → Prop} {Ψ : xs_S → β → Prop} {rc1 : xp_P γ} {rr1 : xs_S} {f : γ → xs_S → xp_P α} {g : xs_S → β} {Φ1 : γ → xs_S → xs_S → Prop} {Ψ1 : xs_S → xs_S → Prop} (h : zz_Z rc1 rr1 Φ1 Ψ1) (k : ∀ a σ1 τ1, Φ1 a σ1 τ1 → zz_Z (f a σ1) (g τ1) Φ Ψ) (k2 : ∀ σ1 τ1, Ψ1 σ1 τ1 → Ψ σ1 (g τ1)) : zz_Z (xp_b rc1 f) (g rr1) Φ Ψ := zz_b (g := g) h k k2
theorem sv_pushReturn {v : Int32} (h : zQ zs fc fr wt σ τ) : zz_Z (fr_pushReturn v σ) (fy_pushWord v (fy_pushWord (τ 20 0) τ)) (fun _ σ' τ' => zQ zs fc fr wt σ' τ' ∧ zF [2, 3, 12] [18, 19, 20] σ σ' τ τ') (fun σ' τ' => zW zs σ' τ' ∧ zF [2, 3, 12] [18, 19, 20] σ σ' τ τ') := by
  unfold fr_pushReturn
  rw [h.2.1.1.1]
  refine zz_o (g := fun x => fy_pushWord v x) (sv_pushWord h) (fun _ σ1 τ1 h1 => ?_) (fun σ1 τ1 h1 => ?_)
  · refine zz_o (g := fun x => x) (sv_pushWord h1.1) (fun _ σ2 τ2 h2 => ?_) (fun σ2 τ2 h2 => ?_)
    · exact zz_s ⟨h2.1, zF_t h1.2 h2.2⟩
    · exact ⟨h2.1, zF_t h1.2 h2.2⟩
  · show zW zs σ1 (fy_pushWord v τ1) ∧ zF _ _ _ _ _ (fy_pushWord v τ1)
    rw [ym_push (zW_n h1.1)]
    exact h1
theorem zd_F {c k : Nat} {sel : Int32} {lc lr : List Nat} {σ' τ' : xs_S} (h : zd_D (σ c) τ k sel) (h1 : zf_F lc σ σ') (h2 : zf_F lr τ τ') (hc : c ∉ lc) (hr : ∀ i ∈ [22, 23, 24, 25, 26, 27], i ∉ lr) : zd_D (σ' c) τ' k sel := by
  unfold zd_D
  rw [h1 c hc, h2 22 (hr 22 (by decide)), h2 23 (hr 23 (by decide)), h2 24 (hr 24 (by decide)), h2 25 (hr 25 (by decide)), h2 26 (hr 26 (by decide)), h2 27 (hr 27 (by decide))]
  exact h
theorem zQ_lk {sel k : Int32} {c : Nat} (h : zQ zs fc fr wt σ τ) (hs : jr_R sel 65535) (hc : c = 13 ∨ c = 14 ∨ c = 15) : zz_Z (fr_lookUp sel c σ) (fy_lookUp sel k τ) (fun _ σ' τ' => zQ zs fc fr wt σ' τ' ∧ zF [2, 12, c] zl_R σ σ' τ τ' ∧ zd_D (σ' c) τ' k.toNatClampNeg sel ∧ zi_I k.toNatClampNeg τ τ') (fun σ' τ' => zW zs σ' τ' ∧ zF [2, 12, c] zl_R σ σ' τ τ') := by
  refine zz_m (sv_lookUp h.1 hs hc) (fun _ σ1 q => ?_) (fun σ1 q => ?_)
  · refine ⟨zQ_F h q.1 q.2.1 ?_ (by decide) (by decide), q.2⟩
    rcases hc with rfl | rfl | rfl <;> decide
  · refine ⟨zW_F h q.1 q.2 ?_ (by decide), q.2⟩
    rcases hc with rfl | rfl | rfl <;> decide
/-- a selector that isn't null is looked up -/
theorem sv_sel {sel k v' c' : Int32} {c v cd : Nat} (h : zQ zs fc fr wt σ τ) (hs : jr_R sel 65535) (hc : c = 13 ∨ c = 14 ∨ c = 15) (hv1 : 10 ≤ v) (hv2 : v ≤ 14) (hcd : cd < 65536) (ev : v' = nI v) (ec : c' = nI cd) {α β : Type} {Φ : α → xs_S → β → Prop} {Ψ : xs_S → β → Prop} {f : Unit → xs_S → xp_P α} {g : xs_S → β} (k1 : ∀ σ1 τ1, zQ zs fc fr wt σ1 τ1 → zF [2, 12, c] zl_R σ σ1 τ τ1 → (zd_D (σ1 c) τ1 k.toNatClampNeg sel ∧ zi_I k.toNatClampNeg τ τ1) → ¬ sel < 4 → zz_Z (f () σ1) (g τ1) Φ Ψ) (k2 : ∀ σ1 τ1, zW zs σ1 τ1 → zF [2, 12, c] zl_R σ σ1 τ τ1 → Ψ σ1 (g τ1)) : zz_Z (xp_b (fx_refuse (fr_isNull sel σ) v' c' σ) (fun _ s3 => xp_b (fr_lookUp sel c s3) f)) (xl_l (if (fy_isNull sel τ) = 0 then (fy_lookUp sel k τ) else (fy_raise v' c' τ)) g) Φ Ψ := by
  rw [sl_null (τ := τ) hs]
  by_cases e : fy_isNull sel τ = 0
  · rw [if_pos e, e]
    refine zz_p rfl ?_
    refine zz_b (zQ_lk h hs hc) (fun _ σ1 τ1 q => ?_) (fun σ1 τ1 q => ?_)
    · exact k1 σ1 τ1 q.1 q.2.1 q.2.2 (sl_n0.mp e)
    · exact k2 σ1 τ1 q.1 q.2
  · rw [if_neg e]
    refine zz_n e ?_
    obtain ⟨q1, q2⟩ := zQ_r h hv1 hv2 hcd ev ec
    exact k2 _ _ q1 (zF_m q2 (fun i hi => by simp at hi ⊢; omega) (by decide))
end ZS
