/-! Returns. -/
variable {zs : Int32}
theorem xu_row {σ : xs_S} {i k a : Nat} {v : Int32} (h : a ≠ i) : xu_u σ i k v a = σ a := funext fun _ => xu_ne h
theorem xu_rows {σ : xs_S} {i k : Nat} {v : Int32} : xu_u σ i k v i = fun b => if b = k then v else σ i b := funext fun _ => if_pos rfl
section ZE
variable {fc : Int32 × Int32} {fr wt : Int32} {σ τ : xs_S}
theorem ra_e {v c : Int32} (h : τ 18 9 = -1) : fy_raise v c τ = xu_u τ 18 9 (65536 * v + c) := by
  unfold fy_raise
  rw [h, if_neg (by decide), xl_e]
theorem zQ_fr {f' : Int32} (h : zQ zs fc fr wt σ τ) : zQ zs fc f' wt σ (xu_u τ 20 20 f') := by
  obtain ⟨h1, ⟨a0, a1, a2, a3, a4⟩, h3, h4⟩ := h
  exact ⟨h1, ⟨a0, a1, a2, a3, a4⟩, ⟨h3.1, h3.2.1, rfl⟩, h4⟩
theorem zQ_fc {f' : Int32} (h : zQ zs fc fr wt σ τ) : zQ zs (f', fc.2) fr wt (xu_u σ 3 5 f') τ := by
  obtain ⟨h1, h2, h3, h4⟩ := h
  exact ⟨h1, h2, ⟨rfl, h3.2.1, h3.2.2⟩, h4⟩
theorem en_y {sel off : Int32} (h : τ 18 9 = -1) (ho : off ≤ τ 23 0) : fy_enter sel off τ = xu_u (xu_u (fy_setSegment 0 (fy_codeOf sel τ ||| τ 20 21) 0 τ) 20 19 off) 18 11 1 := by
  unfold fy_enter
  rw [if_pos (zi_n h), if_pos ho]
  rfl
theorem en_yn {sel off : Int32} (h : τ 18 9 = -1) (ho : ¬ off ≤ τ 23 0) : fy_enter sel off τ = fy_raise 13 0 τ := by
  unfold fy_enter
  rw [if_pos (zi_n h), if_neg ho]
  rfl
theorem en_p {sel off : Int32} (h : zQ zs fc fr wt σ τ) (hD : zd_D (σ 14) τ 0 sel) (hs : jr_R sel 65535) (hn : ¬ sel < 4) (ho : off ≤ τ 23 0) : ∃ σE, fr_enter 14 off σ = (some (), σE) ∧ zQ zs (fc.1, off) fr 1 σE (fy_enter sel off τ) ∧ zf_F [2, 3, 4, 12] σ σE := by
  have z := sv_enter (off := off) (Or.inr rfl) h hD hs hn
  have e : fr_enter 14 off σ = (some (), (fr_enter 14 off σ).2) := by
    unfold fr_enter
    rw [hD.2.2.1, if_pos ho]
    rfl
  obtain ⟨q1, q2, _⟩ := z.1 () _ e
  exact ⟨_, e, q1, q2⟩
theorem en_f {sel off : Int32} (hD : zd_D (σ 14) τ 0 sel) (ho : ¬ off ≤ τ 23 0) : fr_enter 14 off σ = (none, xu_u (xu_u σ 2 0 13) 2 1 0) := by
  unfold fr_enter
  rw [hD.2.2.1, if_neg ho]
  rfl
theorem zQ_cg {τ' : xs_S} {fr' : Int32} (h : zQ zs fc fr wt σ τ) (he : ∀ k, k ≠ 20 → τ' 20 k = τ 20 k) (hf : τ' 20 20 = fr') (h18 : τ' 18 = τ 18) (h19 : τ' 19 = τ 19) (h21 : τ' 21 = τ 21) : zQ zs fc fr' wt σ τ' := by
  obtain ⟨⟨g, m, r, d, dr, rg⟩, ⟨a0, a1, a2, a3, a4, a5, a6, a7, a8, a9, a10⟩, ⟨b0, b1, b2⟩, hsw, hB⟩ := h
  have zs : ∀ (s : Nat) (d : Nat → Int32), s ≤ 2 → zs_S d (τ 20) s → zs_S d (τ' 20) s := by
    intro s d hs z
    unfold zs_S
    rw [he s (by omega), he (3 + s) (by omega), he (6 + s) (by omega), he (9 + s) (by omega), he (12 + s) (by omega), he (15 + s) (by omega)]
    exact z
  refine ⟨⟨?_, ?_, ?_, ?_, dr, ?_⟩, ⟨zs 0 _ (by decide) a0, zs 1 _ (by decide) a1, zs 2 _ (by decide) a2, ?_, ?_, ?_, ?_, ?_, ?_, ?_, ?_⟩, ⟨b0, b1, hf⟩, ?_, ?_⟩
  · unfold zg_G; rw [h18]; exact g
  · unfold zm_M; rw [h18, h19]; exact m
  · rw [h18]; exact r
  · rw [he 24 (by decide)]; exact d
  · rw [he 21 (by decide)]; exact rg
  · rw [he 4 (by decide)]; exact a3
  · rw [he 18 (by decide)]; exact a4
  · rw [he 19 (by decide)]; exact a5
  · rw [he 21 (by decide)]; exact a6
  · rw [he 22 (by decide)]; exact a7
  · rw [he 23 (by decide)]; exact a8
  · rw [he 24 (by decide)]; exact a9
  · rw [he 25 (by decide)]; exact a10
  · rw [h18]; exact hsw
  · rw [h21]; exact hB
theorem rc_e {c0 c1 c2 c3 c4 ss d1 d2 d3 d4 sp v6 off fl : Int32} {k : Nat} (hk : k ≠ 20) : (xu_u (xu_u (xu_u (xu_u (xu_u (xu_u (xu_u (xu_u (xu_u (xu_u (xu_u (xu_u (xu_u (xu_u (xu_u (xu_u (xu_u τ 20 21 v6) 20 0 c0) 20 3 0) 20 6 c1) 20 9 c2) 20 12 c3) 20 15 c4) 20 19 off) 18 11 1) 20 20 fl) 20 1 ss) 20 4 0) 20 7 d1) 20 10 d2) 20 13 d3) 20 16 d4) 20 18 sp) 20 k = (xu_u (xu_u (xu_u (xu_u (xu_u (xu_u (xu_u (xu_u (xu_u (xu_u (xu_u (xu_u (xu_u (xu_u (xu_u (xu_u τ 20 1 ss) 20 4 0) 20 7 d1) 20 10 d2) 20 13 d3) 20 16 d4) 20 18 sp) 20 21 v6) 20 0 c0) 20 3 0) 20 6 c1) 20 9 c2) 20 12 c3) 20 15 c4) 20 19 off) 18 11 1) 20 k := by
  by_cases h18 : k = 18
  · subst h18
    rfl
  by_cases h16 : k = 16
  · subst h16
    rfl
  by_cases h13 : k = 13
  · subst h13
    rfl
  by_cases h10 : k = 10
  · subst h10
    rfl
  by_cases h7 : k = 7
  · subst h7
    rfl
  by_cases h4 : k = 4
  · subst h4
    rfl
  by_cases h1 : k = 1
  · subst h1
    rfl
  by_cases h19 : k = 19
  · subst h19
    rfl
  by_cases h15 : k = 15
  · subst h15
    rfl
  by_cases h12 : k = 12
  · subst h12
    rfl
  by_cases h9 : k = 9
  · subst h9
    rfl
  by_cases h6 : k = 6
  · subst h6
    rfl
  by_cases h3 : k = 3
  · subst h3
    rfl
  by_cases h0 : k = 0
  · subst h0
    rfl
  by_cases h21 : k = 21
  · subst h21
    rfl
  simp [xu_u, hk, h18, h16, h13, h10, h7, h4, h1, h19, h15, h12, h9, h6, h3, h0, h21]
theorem hd_c {v6 : Int32} (h : zs_S (σ 6) (τ 20) 2) (hr : σ 3 6 = v6) : fr_hideData σ = if τ 20 5 = 0 then (if τ 20 14 = 2 then σ else if v6 ≤ τ 20 17 then σ else fd_clear 6 σ) else σ := by
  unfold fr_hideData
  rw [sl_null (τ := τ) h.2.1, xl_e, hr]
  rcases h.2.2 with ⟨h1, h2, _⟩ | ⟨h1, h2, _, _, h5, h6⟩
  · have h1' : τ 20 5 = 1 := h1
    rw [if_neg (fun q => sl_n0.mp q h2), if_neg (by decide), if_neg (by rw [h1']; decide)]
  · have h1' : τ 20 5 = 0 := h1
    have h5' : σ 6 3 = τ 20 14 := h5
    have h6' : σ 6 4 = τ 20 17 := h6
    rw [if_pos (sl_n0.mpr h2), if_pos h1', h5', h6']
    by_cases c : τ 20 14 = 2
    · rw [if_pos c, if_neg (by decide), if_pos c]
    · rw [if_neg c, if_pos rfl, if_neg c]
      by_cases c2 : v6 ≤ τ 20 17
      · rw [if_pos c2, if_pos c2]
      · rw [if_neg c2, if_neg c2]
        rfl
theorem zQ_clds (h : zQ zs fc fr wt σ τ) : zQ zs fc fr wt (fd_clear 6 σ) (fy_setNull 2 0 τ) ∧ zX σ (fd_clear 6 σ) τ (fy_setNull 2 0 τ) := by
  rw [sn_e (d := 6) (k := 2) (Or.inr (Or.inr ⟨rfl, rfl, rfl⟩))]
  obtain ⟨z0, z1, z2, z3, z4⟩ := cl_0 6 σ
  obtain ⟨q1, ⟨a0, a1, a2, a3, a4⟩, q3⟩ := h
  refine ⟨⟨q1, ⟨a0, a1, ⟨z0, ?_, Or.inl ⟨rfl, ?_, z1, z2, z3, z4⟩⟩, a3, a4⟩, q3⟩, cl_F zf_r (by decide), zf_u (zf_u zf_r (by decide)) (by decide)⟩
  · show jr_R (fd_clear 6 σ 6 0) 65535
    rw [z0]
    exact bt_j (n := 0) (m := 65535) (by decide) (by decide)
  · show fd_clear 6 σ 6 0 < 4
    rw [z0]
    decide
/-- a return that stays in its ring -/
theorem sv_retN {sel off v6 v4 : Int32} (h : zQ zs fc fr wt σ τ) (hD : zd_D (σ 14) τ 0 sel) (hs : jr_R sel 65535) (hn : ¬ sel < 4) (h6 : jr_R v6 3) (hf : v4 &&& 3 = fc.1) (h3 : jr_R fc.1 3) : zz_Z (xl_l ((xu_u σ 3 6 v6)) (fun s11 => xp_b (fr_enter 14 off s11) (fun _ s13 => (some (), s13)))) (xl_l ((xu_u τ 20 21 v6)) (fun s14 => xl_l ((fy_enter sel off s14)) (fun s15 => xl_l ((xu_u s15 20 20 (v4 &&& (3 : Int32)))) (fun s16 => (if (fy_isRaised s16) = 0 then s16 else s16))))) (fun (_ : Unit) σ' τ' => zG zs σ' τ' ∧ zX σ σ' τ τ') (fun σ' τ' => zW zs σ' τ' ∧ zX σ σ' τ τ') := by
  refine zz_lc (fun s11 e11 => ?_)
  refine zz_lr (fun s14 e14 => ?_)
  have h1 : zQ zs fc fr wt s11 s14 := by rw [e11, e14]; exact zQ_rs h h6
  have X1 : zX σ s11 τ s14 := by rw [e11, e14]; exact ⟨zf_u zf_r (by decide), zf_u zf_r (by decide)⟩
  have D1 : zd_D (s11 14) s14 0 sel := by rw [e11, e14]; exact hD
  refine zz_b (sv_enter (Or.inr rfl) h1 D1 hs hn) (fun _ σ2 τ2 q => ?_) (fun σ2 τ2 q => ?_)
  · refine zz_lr (fun s16 e16 => ?_)
    rw [ite_self, e16, hf]
    exact zz_s ⟨⟨_, _, h3, zQ_fr q.1⟩, zX_t X1 (zX_t (zX_f q.2 (by decide) (by decide)) ⟨zf_r, zf_u zf_r (by decide)⟩)⟩
  · rw [xl_e, ite_self]
    exact ⟨q.1, zX_t X1 (zX_t (zX_f q.2 (by decide) (by decide)) ⟨zf_r, zf_u zf_r (by decide)⟩)⟩
/-- a return that goes outwards -/
theorem sv_retG {sel off v6 v4 sp ss : Int32} (h : zQ zs fc fr wt σ τ) (hD : zd_D (σ 14) τ 0 sel) (hs : jr_R sel 65535) (hn : ¬ sel < 4) (h6 : jr_R v6 3) (hf : v4 &&& 3 = fc.1) (h3 : jr_R fc.1 3) (hE : zd_D (σ 15) τ 1 ss) (hss : jr_R ss 65535) (hsn : ¬ ss < 4) (h4 : σ 15 3 = 4) : zz_Z (xl_l ((fd_copy 5 15 σ)) (fun s20 => xl_l ((xu_u s20 3 3 sp)) (fun s21 => xl_l ((xu_u s21 3 6 v6)) (fun s22 => xp_b (fr_enter 14 off s22) (fun _ s24 => xl_l ((fr_hideData s24)) (fun s25 => (some (), s25))))))) (xl_l ((xu_u τ 20 21 v6)) (fun s22 => xl_l ((fy_enter sel off s22)) (fun s23 => xl_l ((xu_u s23 20 20 (v4 &&& (3 : Int32)))) (fun s24 => (if (fy_isRaised s24) = 0 then xl_l ((fy_setSegment (1 : Int32) ss (1 : Int32) s24)) (fun s26 => xl_l ((xu_u s26 20 18 sp)) (fun s27 => (if (s27 20 5) = 0 then (if (s27 20 14) = (2 : Int32) then s27 else (if v6 ≤ (s27 20 17) then s27 else xl_l ((fy_setNull (2 : Int32) (0 : Int32) s27)) (fun s31 => s31))) else s27))) else s24))))) (fun (_ : Unit) σ' τ' => zG zs σ' τ' ∧ zX σ σ' τ τ') (fun σ' τ' => zW zs σ' τ' ∧ zX σ σ' τ τ') := by
  have hI : zI 1 5 1 := Or.inr (Or.inl ⟨rfl, rfl, rfl⟩)
  have hI0 : zI 0 4 0 := Or.inl ⟨rfl, rfl, rfl⟩
  have r9 : τ 18 9 = -1 := h.1.2.2.1
  refine zz_lc (fun s20 e20 => ?_)
  refine zz_lc (fun s21 e21 => ?_)
  refine zz_lc (fun s22 e22 => ?_)
  have hA : zQ zs fc fr wt s22 (xu_u (xu_u (fy_setSegment 1 ss 1 τ) 20 18 sp) 20 21 v6) := by
    rw [e22, e21, e20]
    exact zQ_rs (zQ_sp (zQ_set hI (Or.inr (Or.inr rfl)) h (by rw [cn_1]; exact hE) hss hsn (fun _ => h4))) h6
  have XA : zf_F zl_C σ s22 := by
    rw [e22, e21, e20]
    exact zf_u (zf_u (fc_F zf_r (by decide)) (by decide)) (by decide)
  rw [ss_e hI] at hA
  obtain ⟨tA, eA⟩ : ∃ t : xs_S, t = xu_u (xu_u (xu_u (xu_u (xu_u (xu_u (xu_u (xu_u τ 20 1 ss) 20 (3 + 1) 0) 20 (6 + 1) (τ 22 (1 : Int32).toNatClampNeg)) 20 (9 + 1) (τ 23 (1 : Int32).toNatClampNeg)) 20 (12 + 1) (τ 24 (1 : Int32).toNatClampNeg)) 20 (15 + 1) (τ 25 (1 : Int32).toNatClampNeg)) 20 18 sp) 20 21 v6 := ⟨_, rfl⟩
  rw [← eA] at hA
  have r9A : tA 18 9 = -1 := by rw [eA]; exact r9
  have hoA : tA 23 0 = τ 23 0 := by rw [eA]; rfl
  have DA : zd_D (s22 14) tA 0 sel := by
    rw [e22, e21, e20, eA]
    exact hD
  by_cases ho : off ≤ τ 23 0
  · obtain ⟨σE, eE, hE2, FE⟩ := en_p hA DA hs hn (off := off) (by rw [hoA]; exact ho)
    rw [eE]
    have A0 : fy_codeOf sel tA ||| tA 20 21 = fy_codeOf sel τ ||| v6 := by
      rw [eA, xu_same]
      rfl
    have A22 : tA 22 = τ 22 ∧ tA 23 = τ 23 ∧ tA 24 = τ 24 ∧ tA 25 = τ 25 ∧ tA 18 = τ 18 ∧ tA 19 = τ 19 ∧ tA 21 = τ 21 := by
      rw [eA]
      simp only [xu_row (show (22 : Nat) ≠ 20 by decide), xu_row (show (23 : Nat) ≠ 20 by decide), xu_row (show (24 : Nat) ≠ 20 by decide), xu_row (show (25 : Nat) ≠ 20 by decide), xu_row (show (18 : Nat) ≠ 20 by decide), xu_row (show (19 : Nat) ≠ 20 by decide), xu_row (show (21 : Nat) ≠ 20 by decide)]
      exact ⟨trivial, trivial, trivial, trivial, trivial, trivial, trivial⟩
    rw [en_y r9A (by rw [hoA]; exact ho), ss_e hI0, A0, A22.1, A22.2.1, A22.2.2.1, A22.2.2.2.1, cn_0] at hE2
    refine zz_lr (fun t22 f22 => ?_)
    rw [f22, en_y (τ := xu_u τ 20 21 v6) r9 ho, ss_e hI0, xu_same, xu_row (show (22 : Nat) ≠ 20 by decide), xu_row (show (23 : Nat) ≠ 20 by decide), xu_row (show (24 : Nat) ≠ 20 by decide), xu_row (show (25 : Nat) ≠ 20 by decide), cn_0]
    refine zz_lr (fun t23 f23 => ?_)
    refine zz_lr (fun t24 f24 => ?_)
    have R24 : t24 18 = (fun b => if b = 11 then (1 : Int32) else τ 18 b) ∧ t24 19 = τ 19 ∧ t24 21 = τ 21 ∧ t24 22 = τ 22 ∧ t24 23 = τ 23 ∧ t24 24 = τ 24 ∧ t24 25 = τ 25 := by
      rw [f24, f23]
      simp only [xu_rows (i := 18), xu_row (show (22 : Nat) ≠ 20 by decide), xu_row (show (23 : Nat) ≠ 20 by decide), xu_row (show (24 : Nat) ≠ 20 by decide), xu_row (show (25 : Nat) ≠ 20 by decide), xu_row (show (18 : Nat) ≠ 20 by decide), xu_row (show (19 : Nat) ≠ 20 by decide), xu_row (show (21 : Nat) ≠ 20 by decide), xu_row (show (22 : Nat) ≠ 18 by decide), xu_row (show (23 : Nat) ≠ 18 by decide), xu_row (show (24 : Nat) ≠ 18 by decide), xu_row (show (25 : Nat) ≠ 18 by decide), xu_row (show (19 : Nat) ≠ 18 by decide), xu_row (show (21 : Nat) ≠ 18 by decide)]
      exact ⟨trivial, trivial, trivial, trivial, trivial, trivial, trivial⟩
    have r24 : t24 18 9 = -1 := by rw [R24.1]; exact r9
    rw [if_pos (zi_n r24), ss_e hI, R24.2.2.2.1, R24.2.2.2.2.1, R24.2.2.2.2.2.1, R24.2.2.2.2.2.2, cn_1]
    refine zz_lr (fun t26 f26 => ?_)
    refine zz_lr (fun t27 f27 => ?_)
    have R27 : t27 18 = t24 18 ∧ t27 19 = τ 19 ∧ t27 21 = τ 21 := by
      rw [f27, f26]
      simp only [xu_row (show (18 : Nat) ≠ 20 by decide), xu_row (show (19 : Nat) ≠ 20 by decide), xu_row (show (21 : Nat) ≠ 20 by decide)]
      exact ⟨trivial, R24.2.1, R24.2.2.1⟩
    have RE : ∀ X : xs_S, X 18 = τ 18 → X 19 = τ 19 → X 21 = τ 21 → ∀ a0 a1 a2 a3 a4 a5 : Int32, (xu_u (xu_u (xu_u (xu_u (xu_u (xu_u (xu_u (xu_u X 20 0 a0) 20 (3 + 0) 0) 20 (6 + 0) a1) 20 (9 + 0) a2) 20 (12 + 0) a3) 20 (15 + 0) a4) 20 19 a5) 18 11 1) 18 = (fun b => if b = 11 then (1 : Int32) else τ 18 b) ∧ (xu_u (xu_u (xu_u (xu_u (xu_u (xu_u (xu_u (xu_u X 20 0 a0) 20 (3 + 0) 0) 20 (6 + 0) a1) 20 (9 + 0) a2) 20 (12 + 0) a3) 20 (15 + 0) a4) 20 19 a5) 18 11 1) 19 = τ 19 ∧ (xu_u (xu_u (xu_u (xu_u (xu_u (xu_u (xu_u (xu_u X 20 0 a0) 20 (3 + 0) 0) 20 (6 + 0) a1) 20 (9 + 0) a2) 20 (12 + 0) a3) 20 (15 + 0) a4) 20 19 a5) 18 11 1) 21 = τ 21 := by
      intro X x1 x2 x3 a0 a1 a2 a3 a4 a5
      simp only [xu_rows (i := 18), xu_row (show (18 : Nat) ≠ 20 by decide), xu_row (show (19 : Nat) ≠ 20 by decide), xu_row (show (21 : Nat) ≠ 20 by decide), xu_row (show (19 : Nat) ≠ 18 by decide), xu_row (show (21 : Nat) ≠ 18 by decide)]
      exact ⟨by rw [x1], x2, x3⟩
    have hQ : zQ zs (fc.1, off) fc.1 1 σE t27 := by
      refine zQ_cg hE2 (fun k hk => ?_) ?_ ?_ ?_ ?_
      · rw [f27, f26, f24, f23, eA]
        rw [cn_1]
        exact rc_e hk
      · rw [f27, f26, f24, hf]
        rfl
      · rw [R27.1, R24.1]
        exact (RE tA A22.2.2.2.2.1 A22.2.2.2.2.2.1 A22.2.2.2.2.2.2 _ _ _ _ _ _).1.symm
      · rw [R27.2.1]
        exact (RE tA A22.2.2.2.2.1 A22.2.2.2.2.2.1 A22.2.2.2.2.2.2 _ _ _ _ _ _).2.1.symm
      · rw [R27.2.2]
        exact (RE tA A22.2.2.2.2.1 A22.2.2.2.2.2.1 A22.2.2.2.2.2.2 _ _ _ _ _ _).2.2.symm
    have XQ : zX σ σE τ t27 := by
      refine ⟨zf_t XA (zf_m FE (by decide)), ?_⟩
      rw [f27, f26, f24, f23]
      exact zf_u (zf_u (zf_u (zf_u (zf_u (zf_u (zf_u (zf_u (zf_u (zf_u (zf_u (zf_u (zf_u (zf_u (zf_u (zf_u (zf_u zf_r (by decide)) (by decide)) (by decide)) (by decide)) (by decide)) (by decide)) (by decide)) (by decide)) (by decide)) (by decide)) (by decide)) (by decide)) (by decide)) (by decide)) (by decide)) (by decide)) (by decide)
    have hv : σE 3 6 = v6 := by
      rw [hQ.1.2.2.2.2.2, f27, f26, f24, f23]
      simp [xu_u]
    show zz_Z (xl_l (fr_hideData σE) (fun s25 => (some (), s25))) _ _ _
    rw [hd_c hQ.2.1.2.2.1 hv]
    refine zz_lc (fun s25 e25 => ?_)
    by_cases c1 : t27 20 5 = 0
    · rw [if_pos c1] at e25 ⊢
      by_cases c2 : t27 20 14 = 2
      · rw [if_pos c2] at e25 ⊢
        rw [e25]
        exact zz_s ⟨⟨_, _, h3, hQ⟩, XQ⟩
      · rw [if_neg c2] at e25 ⊢
        by_cases c3 : v6 ≤ t27 20 17
        · rw [if_pos c3] at e25 ⊢
          rw [e25]
          exact zz_s ⟨⟨_, _, h3, hQ⟩, XQ⟩
        · rw [if_neg c3] at e25 ⊢
          rw [e25, xl_e]
          obtain ⟨q1, q2⟩ := zQ_clds hQ
          exact zz_s ⟨⟨_, _, h3, q1⟩, zX_t XQ q2⟩
    · rw [if_neg c1] at e25 ⊢
      rw [e25]
      exact zz_s ⟨⟨_, _, h3, hQ⟩, XQ⟩
  · rw [en_f DA (show ¬ off ≤ tA 23 0 by rw [hoA]; exact ho)]
    refine zz_f ?_
    have w := (zQ_r hA (v := 13) (c := 0) (by decide) (by decide) (by decide) (show (13 : Int32) = nI 13 by decide) (show (0 : Int32) = nI 0 by decide)).1
    rw [ra_e r9A, eA] at w
    rw [xl_e, en_yn (τ := xu_u τ 20 21 v6) r9 ho, ra_e (τ := xu_u τ 20 21 v6) r9, xl_e, xl_e]
    have w2 : zW zs (xu_u (xu_u s22 2 0 13) 2 1 0) (xu_u (xu_u (xu_u τ 20 21 v6) 18 9 (65536 * 13 + 0)) 20 20 (v4 &&& 3)) := w
    rw [if_neg (zW_n w2)]
    exact ⟨w2, zf_u (zf_u XA (by decide)) (by decide), zf_u (zf_u (zf_u zf_r (by decide)) (by decide)) (by decide)⟩
end ZE
