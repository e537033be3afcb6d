/-! Selectors, look-ups, registers, accesses. -/
variable {zs : Int32}
theorem sl_n {x : Int32} (h : jr_R x 65535) : ∃ n : Nat, n < 65536 ∧ x = nI n := by
  obtain ⟨j, hj, e⟩ := jr_nat (m := 65535) (by decide) h
  exact ⟨j, by omega, e⟩
theorem sl_null {x : Int32} {σ τ : xs_S} (h : jr_R x 65535) : fr_isNull x σ = fy_isNull x τ := by
  obtain ⟨n, hn, rfl⟩ := sl_n h
  unfold fr_isNull fy_isNull
  rw [pk_shrN (by omega) _ 2 (by decide), show (4 : Int32) = nI 4 by decide, show (0 : Int32) = nI 0 by decide]
  by_cases e : n < 4
  · rw [if_pos ((nI_eq (by omega) (by decide)).mpr (by omega)), if_neg (by rw [nI_leI (by decide) (by omega)]; omega)]
  · rw [if_neg (by rw [nI_eq (by omega) (by decide)]; omega), if_pos ((nI_leI (by decide) (by omega)).mpr (by omega))]
theorem sl_n0 {x : Int32} {τ : xs_S} : fy_isNull x τ = 0 ↔ ¬ x < 4 := by
  unfold fy_isNull
  by_cases e : (4 : Int32) ≤ x
  · rw [if_pos e]
    exact ⟨fun _ q => Int32.not_lt.mpr e q, fun _ => rfl⟩
  · rw [if_neg e]
    exact ⟨fun q => absurd q (by decide), fun q => absurd (Int32.not_lt.mp q) e⟩
theorem nd_4 {n : Nat} (h : n < 65536) : n &&& 65532 = 4 * (n / 4) := by
  apply Nat.eq_of_testBit_eq
  intro i
  have e : 4 * (n / 4) = (n >>> 2) <<< 2 := by
    rw [Nat.shiftLeft_eq, Nat.shiftRight_eq_div_pow]
    omega
  rw [Nat.testBit_and, e, Nat.testBit_shiftLeft, Nat.testBit_shiftRight]
  by_cases h16 : 16 ≤ i
  · have hb : n.testBit i = false := Nat.testBit_lt_two_pow (Nat.lt_of_lt_of_le h (Nat.pow_le_pow_right (n := 2) (by decide) h16))
    rw [show 2 + (i - 2) = i by omega, hb]
    simp
  · have hb : ∀ i, i < 16 → Nat.testBit 65532 i = decide (i ≥ 2) := by decide
    rw [hb i (by omega)]
    by_cases h2 : i ≥ 2
    · rw [show 2 + (i - 2) = i by omega]
      simp [h2]
    · simp [h2]
theorem sl_code {x : Int32} {σ τ : xs_S} (h : jr_R x 65535) : fr_codeOf x σ = fy_codeOf x τ ∧ ∃ c : Nat, c < 65536 ∧ c % 4 = 0 ∧ fy_codeOf x τ = nI c := by
  obtain ⟨n, hn, rfl⟩ := sl_n h
  unfold fr_codeOf fy_codeOf
  have e : nI n &&& 65535 = nI n := by
    rw [pk_andN (by omega) 16 (by decide), Nat.mod_eq_of_lt (by omega)]
  refine ⟨?_, 4 * (n / 4), by omega, by omega, ?_⟩
  · rw [← e, Int32.and_assoc, Int32.and_assoc]
    rfl
  · rw [show (65532 : Int32) = nI 65532 by decide, bt_and, nd_4 hn]
theorem sl_sum {x r : Int32} {σ τ : xs_S} (h : jr_R x 65535) (hr : jr_R r 3) : fr_codeOf x σ + r = fy_codeOf x τ ||| r ∧ jr_R (fy_codeOf x τ ||| r) 65535 ∧ (¬ x < 4 → ¬ fy_codeOf x τ ||| r < 4) := by
  obtain ⟨n, hn, rfl⟩ := sl_n h
  obtain ⟨q, hq, rfl⟩ := jr_nat (m := 3) (by decide) hr
  rw [(sl_code (σ := σ) (τ := τ) h).1]
  unfold fy_codeOf
  rw [show (65532 : Int32) = nI 65532 by decide, bt_and, nd_4 hn]
  have e : nI (4 * (n / 4)) ||| nI q = nI (4 * (n / 4) + q) := by
    apply Int32.toBitVec_inj.mp
    show BitVec.ofNat 32 _ ||| BitVec.ofNat 32 _ = BitVec.ofNat 32 _
    rw [← BitVec.ofNat_or, show 4 * (n / 4) + q = 4 * (n / 4) ||| q from Nat.two_pow_add_eq_or_of_lt (i := 2) (by omega) _]
  rw [e, nI_add]
  refine ⟨rfl, bt_j (n := 4 * (n / 4) + q) (m := 65535) (by omega) (by decide), ?_⟩
  rw [show (4 : Int32) = nI 4 by decide, nI_ltI (by omega) (by decide), nI_ltI (by omega) (by decide)]
  omega
theorem sl_4 {x : Int32} (h : jr_R x 65535) : x >>> (2 &&& 31) = x / 4 := by
  obtain ⟨n, hn, rfl⟩ := sl_n h
  rw [pk_shrN (by omega) _ 2 (by decide), show (4 : Int32) = nI 4 by decide, pk_div (by omega) (by decide) (by decide)]
theorem sl_3 (x : Int32) : jr_R (x &&& 3) 3 := jr_and (k := 2) (by decide) (by decide) (by decide)
theorem fd_F {l : List Nat} {c : Nat} {sel : Int32} {V : Int64} {σ σ' : xs_S} (h : zf_F l σ σ') (hc : c ∈ l) : zf_F l σ (fd_decode c sel V σ') := zf_u (zf_u (zf_u (zf_u (zf_u (zf_u (zf_u h hc) hc) hc) hc) hc) hc) hc
theorem sv_lookUp {sel k : Int32} {c : Nat} {σ τ : xs_S} (hL : zl_L σ τ) (hs : jr_R sel 65535) (hc : c = 13 ∨ c = 14 ∨ c = 15) : zz_Z (fr_lookUp sel c σ) (fy_lookUp sel k τ) (fun _ σ' τ' => zl_L σ' τ' ∧ zF [2, 12, c] zl_R σ σ' τ τ' ∧ zd_D (σ' c) τ' k.toNatClampNeg sel ∧ zi_I k.toNatClampNeg τ τ') (fun σ' τ' => zx_X σ' τ' ∧ zF [2, 12, c] zl_R σ σ' τ τ') := by
  unfold fr_lookUp fy_lookUp
  refine zz_lc (fun v1 e1 => ?_)
  rw [sl_4 hs] at e1
  rw [← e1, hL.1.2.2.1]
  obtain ⟨h1, cd, hcd, _, h2⟩ := sl_code (σ := σ) (τ := τ) hs
  by_cases e : v1 < τ 18 3
  · rw [if_pos e, if_pos e]
    refine zz_p rfl ?_
    rw [hL.1.2.1]
    refine zz_b (sv_eight hL) (fun V σ1 τ1 h => ?_) (fun σ1 τ1 h => ?_)
    · obtain ⟨h3, h4, h5, h6⟩ := h
      refine zz_lc (fun s6 e6 => ?_)
      rw [e6]
      have hF : zF [2, 12, c] zl_R σ1 (fd_decode c sel V σ1) τ1 τ1 := ⟨fd_F zf_r (by simp), zf_r, zk_r⟩
      have hF0 : zF [2, 12, c] zl_R σ (fd_decode c sel V σ1) τ τ1 := zF_t (zF_m h4 (fun i hi => by simp at hi ⊢; omega) (fun i hi => hi)) hF
      refine zz_s ⟨?_, hF0, h5 c sel σ1, h6⟩
      rcases hc with rfl | rfl | rfl <;> exact h3
    · exact ⟨h.1, zF_m h.2 (fun i hi => by simp at hi ⊢; omega) (fun i hi => hi)⟩
  · rw [if_neg e, if_neg e]
    refine zz_n (by decide) ?_
    rw [h1]
    obtain ⟨q1, q2⟩ := zx_r (v := 13) (c := cd) (v' := 13) hL.1 hL.2.1 hL.2.2.1 (by decide) (by decide) hcd (by decide) h2
    exact ⟨q1, zF_m q2 (fun i hi => by simp at hi ⊢; omega) (by decide)⟩
/-! Registers. -/
def zs_S (d r : Nat → Int32) (s : Nat) : Prop := d 0 = r s ∧ jr_R (d 0) 65535 ∧ ((r (3 + s) = 1 ∧ d 0 < 4 ∧ d 1 = 0 ∧ d 2 = 0 ∧ d 3 = 0 ∧ d 4 = 0) ∨ (r (3 + s) = 0 ∧ ¬ d 0 < 4 ∧ d 1 = r (6 + s) ∧ d 2 = r (9 + s) ∧ d 3 = r (12 + s) ∧ d 4 = r (15 + s)))
def zr_R (c d0 d1 d2 q : Nat → Int32) : Prop := zs_S d0 q 0 ∧ zs_S d1 q 1 ∧ zs_S d2 q 2 ∧ (q 4 = 0 → d1 3 = 4) ∧ c 3 = q 18 ∧ c 4 = q 19 ∧ (c 6 = q 21 ∧ jr_R (c 6) 3) ∧ (c 7 = q 22 ∧ jr_R (c 7) 65535) ∧ c 8 = q 23 ∧ (c 9 = q 24 ∧ jr_R (c 9) 31) ∧ c 10 = q 25
def zb_B (c d0 d1 d2 q : Nat → Int32) : Prop := zr_R c d0 d1 d2 q ∧ c 5 = q 20 ∧ jr_R (c 5) 3
def zQ (zs : Int32) (fc : Int32 × Int32) (fr wt : Int32) (σ τ : xs_S) : Prop := zl_L σ τ ∧ zr_R (σ 3) (σ 4) (σ 5) (σ 6) (τ 20) ∧ (σ 3 5 = fc.1 ∧ σ 3 4 = fc.2 ∧ τ 20 20 = fr) ∧ (τ 18 10 = zs ∧ τ 18 11 = wt) ∧ zb_B (σ 7) (σ 8) (σ 9) (σ 10) (τ 21)
def zW (zs : Int32) (σ τ : xs_S) : Prop := zx_X σ τ ∧ τ 18 10 = zs ∧ zb_B (σ 7) (σ 8) (σ 9) (σ 10) (τ 21)
section ZQ
variable {fc : Int32 × Int32} {fr wt : Int32} {σ σ' τ τ' : xs_S} {lc lr : List Nat}
theorem zQ_F (h : zQ zs fc fr wt σ τ) (hL : zl_L σ' τ') (hF : zF lc lr σ σ' τ τ') (h1 : ∀ i ∈ [3, 4, 5, 6, 7, 8, 9, 10], i ∉ lc) (h2 : 20 ∉ lr) (h3 : 21 ∉ lr) : zQ zs fc fr wt σ' τ' := by
  refine ⟨hL, ?_⟩
  rw [hF.1 3 (h1 3 (by decide)), hF.1 4 (h1 4 (by decide)), hF.1 5 (h1 5 (by decide)), hF.1 6 (h1 6 (by decide)), hF.1 7 (h1 7 (by decide)), hF.1 8 (h1 8 (by decide)), hF.1 9 (h1 9 (by decide)), hF.1 10 (h1 10 (by decide)), hF.2.1 20 h2, hF.2.1 21 h3, hF.2.2 10 (by decide) (by decide), hF.2.2 11 (by decide) (by decide)]
  exact h.2
theorem zW_F (h : zQ zs fc fr wt σ τ) (hX : zx_X σ' τ') (hF : zF lc lr σ σ' τ τ') (h1 : ∀ i ∈ [7, 8, 9, 10], i ∉ lc) (h3 : 21 ∉ lr) : zW zs σ' τ' := by
  refine ⟨hX, ?_⟩
  rw [hF.1 7 (h1 7 (by decide)), hF.1 8 (h1 8 (by decide)), hF.1 9 (h1 9 (by decide)), hF.1 10 (h1 10 (by decide)), hF.2.1 21 h3, hF.2.2 10 (by decide) (by decide)]
  exact ⟨h.2.2.2.1.1, h.2.2.2.2⟩
theorem zQ_n (h : zQ zs fc fr wt σ τ) : fy_isRaised τ = 0 := zi_n h.1.2.2.1
theorem zW_n (h : zW zs σ τ) : ¬ fy_isRaised τ = 0 := by
  rw [zi_r (zi_v h.1.2.2)]
  decide
theorem zQ_r (h : zQ zs fc fr wt σ τ) {v c : Nat} {v' c' : Int32} (hv1 : 10 ≤ v) (hv2 : v ≤ 14) (hc : c < 65536) (ev : v' = nI v) (ec : c' = nI c) : zW zs (xu_u (xu_u σ 2 0 v') 2 1 c') (fy_raise v' c' τ) ∧ zF [2, 12] [18, 19] σ (xu_u (xu_u σ 2 0 v') 2 1 c') τ (fy_raise v' c' τ) := by
  obtain ⟨q1, q2⟩ := zx_r h.1.1 h.1.2.1 h.1.2.2.1 hv1 hv2 hc ev ec
  exact ⟨zW_F h q1 q2 (by decide) (by decide), q2⟩
theorem zQ_sp {x : Int32} (h : zQ zs fc fr wt σ τ) : zQ zs fc fr wt (xu_u σ 3 3 x) (xu_u τ 20 18 x) := by
  obtain ⟨h1, ⟨a0, a1, a2, a3, a4, a5, a6, a7, a8, a9, a10⟩, h3, h4, h5⟩ := h
  exact ⟨h1, ⟨a0, a1, a2, a3, rfl, a5, a6, a7, a8, a9, a10⟩, h3, h4, h5⟩
/-- the segment registers by number -/
def zI (s : Int32) (d k : Nat) : Prop := (s = 0 ∧ d = 4 ∧ k = 0) ∨ (s = 1 ∧ d = 5 ∧ k = 1) ∨ (s = 2 ∧ d = 6 ∧ k = 2)
theorem zI_h {s : Int32} {d k : Nat} (h : zI s d k) (σ : xs_S) : fg_held s σ = d := by
  rcases h with ⟨rfl, rfl, rfl⟩ | ⟨rfl, rfl, rfl⟩ | ⟨rfl, rfl, rfl⟩ <;> rfl
theorem zI_n {s : Int32} {d k : Nat} (h : zI s d k) : s.toNatClampNeg = k ∧ ((3 : Int32) + s).toNatClampNeg = 3 + k ∧ ((6 : Int32) + s).toNatClampNeg = 6 + k ∧ ((9 : Int32) + s).toNatClampNeg = 9 + k ∧ ((12 : Int32) + s).toNatClampNeg = 12 + k ∧ ((15 : Int32) + s).toNatClampNeg = 15 + k := by
  rcases h with ⟨rfl, rfl, rfl⟩ | ⟨rfl, rfl, rfl⟩ | ⟨rfl, rfl, rfl⟩ <;> decide
theorem zI_S {s : Int32} {d k : Nat} (h : zI s d k) (hr : zr_R (σ 3) (σ 4) (σ 5) (σ 6) (τ 20)) : zs_S (σ d) (τ 20) k := by
  rcases h with ⟨rfl, rfl, rfl⟩ | ⟨rfl, rfl, rfl⟩ | ⟨rfl, rfl, rfl⟩
  · exact hr.1
  · exact hr.2.1
  · exact hr.2.2.1
theorem ck_c {s off : Int32} {d k : Nat} (hI : zI s d k) (hS : zs_S (σ d) (τ 20) k) : fr_checkAccess s off σ = if τ 20 (3 + k) = 1 ∨ ¬ off + 1 ≤ τ 20 (9 + k) then (none, xu_u (xu_u σ 2 0 (if s = 1 then 12 else 13)) 2 1 0) else (some (), σ) := by
  unfold fr_checkAccess
  rw [zI_h hI, sl_null (τ := τ) hS.2.1]
  rcases hS.2.2 with ⟨h1, h2, _⟩ | ⟨h1, h2, _, h4, _⟩
  · rw [if_neg (fun q => sl_n0.mp q h2), if_pos (Or.inl h1)]
    rfl
  · rw [if_pos (sl_n0.mpr h2), h4]
    by_cases e : off + 1 ≤ τ 20 (9 + k)
    · have hn : ¬ (τ 20 (3 + k) = 1 ∨ ¬ off + 1 ≤ τ 20 (9 + k)) := fun q => q.elim (fun q => absurd (h1.symm.trans q) (by decide)) (fun q => q e)
      rw [if_pos e, if_neg hn]
      rfl
    · rw [if_neg e, if_pos (Or.inr e)]
      rfl
theorem ck_y {s off wr : Int32} {d k : Nat} (hI : zI s d k) : fy_within s off wr τ = if τ 20 (3 + k) = 1 ∨ ¬ off + 1 ≤ τ 20 (9 + k) then (fy_raise (if s = 1 then 12 else 13) 0 τ 20 (6 + k) + off, fy_raise (if s = 1 then 12 else 13) 0 τ) else if wr = 0 ∨ τ 20 (12 + k) = 4 then (τ 20 (6 + k) + off, τ) else (fy_raise 13 0 τ 20 (6 + k) + off, fy_raise 13 0 τ) := by
  obtain ⟨_, n3, n6, n9, n12, _⟩ := zI_n hI
  unfold fy_within
  rw [n3, n6, n9, n12]
  by_cases e1 : τ 20 (3 + k) = 1
  · rw [if_pos e1, if_pos (Or.inl e1)]
    rfl
  · rw [if_neg e1]
    by_cases e : off + 1 ≤ τ 20 (9 + k)
    · have hn : ¬ (τ 20 (3 + k) = 1 ∨ ¬ off + 1 ≤ τ 20 (9 + k)) := fun q => q.elim e1 (fun q => q e)
      rw [if_pos e, if_neg hn, xl_e, if_pos rfl]
      by_cases e2 : wr = 0
      · rw [if_pos e2, if_pos (Or.inl e2)]
        rfl
      · rw [if_neg e2]
        by_cases e3 : τ 20 (12 + k) = 4
        · rw [if_pos e3, if_pos (Or.inr e3)]
          rfl
        · rw [if_neg e3, if_neg (show ¬ (wr = 0 ∨ τ 20 (12 + k) = 4) from fun q => q.elim e2 e3)]
          rfl
    · rw [if_neg e, if_pos (Or.inr e)]
      rfl
theorem ck_v (s : Int32) : ∃ v : Nat, 10 ≤ v ∧ v ≤ 14 ∧ (if s = 1 then (12 : Int32) else 13) = nI v := by
  by_cases e : s = 1
  · rw [if_pos e]; exact ⟨12, by decide, by decide, by decide⟩
  · rw [if_neg e]; exact ⟨13, by decide, by decide, by decide⟩
theorem sv_wordIn {s off : Int32} {d k : Nat} (hI : zI s d k) (h : zQ zs fc fr wt σ τ) : zz_Z (fr_wordIn s off σ) (fy_segmentWord s off τ) (fun p σ' r => r.1 = p ∧ zQ zs fc fr wt σ' r.2 ∧ zF [2, 12] [18, 19] σ σ' τ r.2 ∧ jr_R p 65535) (fun σ' r => zW zs σ' r.2 ∧ zF [2, 12] [18, 19] σ σ' τ r.2) := by
  have hS := zI_S hI h.2.1
  unfold fr_wordIn fy_segmentWord
  rw [ck_c hI hS, ck_y hI]
  by_cases e : τ 20 (3 + k) = 1 ∨ ¬ off + 1 ≤ τ 20 (9 + k)
  · rw [if_pos e, if_pos e]
    obtain ⟨v, hv1, hv2, ev⟩ := ck_v s
    have hW := zQ_r h (v := v) (c := 0) hv1 hv2 (by decide) ev (show (0 : Int32) = nI 0 by decide)
    refine zz_f ?_
    rw [xl_e, if_neg (zW_n hW.1)]
    exact hW
  · rw [if_neg e, if_neg e, if_pos (Or.inl rfl)]
    refine zz_lr (fun r er => ?_)
    rw [er, if_pos (zQ_n h)]
    show zz_Z (xp_b (fm_wordAt (σ (fg_held s σ) 1 + off) (σ 3 6) σ) _) _ _ _
    rw [zI_h hI]
    rcases hS.2.2 with ⟨h1, _⟩ | ⟨_, _, h3, _⟩
    · exact absurd (Or.inl h1) e
    rw [h3]
    refine zz_b (sv_wordAt h.1 (Or.inl ⟨rfl, h.1.2.2.2.2.2⟩)) (fun p σ1 r1 h1 => ?_) (fun σ1 r1 h1 => ?_)
    · obtain ⟨q1, q2, q3, q4⟩ := h1
      exact zz_s ⟨q1, zQ_F h q2 q3 (by decide) (by decide) (by decide), q3, q4⟩
    · exact ⟨zW_F h h1.1 h1.2 (by decide) (by decide), h1.2⟩
theorem sv_setIn {off v : Int32} {d k : Nat} {s : Int32} (hI : zI s d k) (h : zQ zs fc fr wt σ τ) (hk : τ 20 (3 + k) = 0 → τ 20 (12 + k) = 4) : zz_Z (xp_b (fr_checkAccess s off σ) (fun _ s3 => xp_b (fm_setWord ((s3 d 1) + off) v (s3 3 6) s3) (fun _ s5 => (some (), s5)))) (fy_setSegmentWord s off v τ) (fun _ σ' τ' => zQ zs fc fr wt σ' τ' ∧ zF [2, 12] [18, 19] σ σ' τ τ') (fun σ' τ' => zW zs σ' τ' ∧ zF [2, 12] [18, 19] σ σ' τ τ') := by
  have hS := zI_S hI h.2.1
  unfold fy_setSegmentWord
  rw [ck_c hI hS, ck_y hI]
  by_cases e : τ 20 (3 + k) = 1 ∨ ¬ off + 1 ≤ τ 20 (9 + k)
  · rw [if_pos e, if_pos e]
    obtain ⟨w, hv1, hv2, ev⟩ := ck_v s
    have hW := zQ_r h (v := w) (c := 0) hv1 hv2 (by decide) ev (show (0 : Int32) = nI 0 by decide)
    refine zz_f ?_
    rw [xl_e, if_neg (zW_n hW.1)]
    exact hW
  · rcases hS.2.2 with ⟨h1, _⟩ | ⟨h2, _, h3, _⟩
    · exact absurd (Or.inl h1) e
    rw [if_neg e, if_neg e, if_pos (Or.inr (hk h2))]
    refine zz_lr (fun r er => ?_)
    rw [er, if_pos (zQ_n h)]
    show zz_Z (xp_b (fm_setWord (σ d 1 + off) v (σ 3 6) σ) _) _ _ _
    rw [h3]
    refine zz_b (sv_setWord h.1 (Or.inl ⟨rfl, h.1.2.2.2.2.2⟩)) (fun _ σ1 τ1 h1 => ?_) (fun σ1 τ1 h1 => ?_)
    · exact zz_s ⟨zQ_F h h1.1 h1.2 (by decide) (by decide) (by decide), h1.2⟩
    · exact ⟨zW_F h h1.1 h1.2 (by decide) (by decide), h1.2⟩
theorem sv_setWordIn {off v : Int32} {d k : Nat} {s : Int32} (hI : zI s d k) (h : zQ zs fc fr wt σ τ) : zz_Z (fr_setWordIn s off v σ) (fy_setSegmentWord s off v τ) (fun _ σ' τ' => zQ zs fc fr wt σ' τ' ∧ zF [2, 12] [18, 19] σ σ' τ τ') (fun σ' τ' => zW zs σ' τ' ∧ zF [2, 12] [18, 19] σ σ' τ τ') := by
  have hS := zI_S hI h.2.1
  by_cases hk : τ 20 (3 + k) = 0 → τ 20 (12 + k) = 4
  · refine cast (congrArg (fun x => zz_Z x (fy_setSegmentWord s off v τ) _ _) ?_) (sv_setIn (off := off) (v := v) hI h hk)
    unfold fr_setWordIn
    rw [ck_c hI hS]
    by_cases e : τ 20 (3 + k) = 1 ∨ ¬ off + 1 ≤ τ 20 (9 + k)
    · rw [if_pos e]
      rfl
    · rw [if_neg e]
      rcases hS.2.2 with ⟨h1, _⟩ | ⟨h2, _, _, _, h5, _⟩
      · exact absurd (Or.inl h1) e
      show _ = xp_b (fx_refuse (if σ (fg_held s σ) 3 = 4 then 0 else 1) 13 0 σ) (fun b3 s4 => xp_b (fm_setWord ((s4 (fg_held s s4) 1) + off) v (s4 3 6) s4) (fun b5 s6 => (some (), s6)))
      rw [zI_h hI, h5, if_pos (hk h2)]
      show _ = xp_b (fm_setWord ((σ (fg_held s σ) 1) + off) v (σ 3 6) σ) _
      rw [zI_h hI]
      rfl
  · obtain ⟨h2, h4⟩ := Classical.not_imp.mp hk
    unfold fr_setWordIn fy_setSegmentWord
    rw [ck_c hI hS, ck_y hI]
    by_cases e : τ 20 (3 + k) = 1 ∨ ¬ off + 1 ≤ τ 20 (9 + k)
    · rw [if_pos e, if_pos e]
      obtain ⟨w, hv1, hv2, ev⟩ := ck_v s
      have hW := zQ_r h (v := w) (c := 0) hv1 hv2 (by decide) ev (show (0 : Int32) = nI 0 by decide)
      refine zz_f ?_
      rw [xl_e, if_neg (zW_n hW.1)]
      exact hW
    · rw [if_neg e, if_neg e, if_neg (fun q => q.elim (by decide) h4)]
      have hW := zQ_r h (v := 13) (c := 0) (by decide) (by decide) (by decide) (show (13 : Int32) = nI 13 by decide) (show (0 : Int32) = nI 0 by decide)
      rcases hS.2.2 with ⟨h1, _⟩ | ⟨_, _, _, _, h5, _⟩
      · exact absurd (Or.inl h1) e
      show zz_Z (xp_b (fx_refuse (if σ (fg_held s σ) 3 = 4 then 0 else 1) 13 0 σ) _) _ _ _
      rw [zI_h hI, h5, if_neg h4]
      refine zz_n (by decide) ?_
      rw [xl_e, if_neg (zW_n hW.1)]
      exact hW
theorem sv_pushWord {v : Int32} (h : zQ zs fc fr wt σ τ) : zz_Z (fr_pushWord v σ) (fy_pushWord v τ) (fun _ σ' τ' => zQ zs fc fr wt σ' τ' ∧ zF [2, 3, 12] [18, 19, 20] σ σ' τ τ') (fun σ' τ' => zW zs σ' τ' ∧ zF [2, 3, 12] [18, 19, 20] σ σ' τ τ') := by
  unfold fr_pushWord fy_pushWord
  rw [if_pos (zQ_n h)]
  refine zz_lc (fun s1 e1 => ?_)
  refine zz_lr (fun t1 f1 => ?_)
  have hsp : σ 3 3 = τ 20 18 := h.2.1.2.2.2.2.1
  have h1 : zQ zs fc fr wt s1 t1 := by
    rw [e1, f1, hsp]
    exact zQ_sp h
  have hF : zF [2, 3, 12] [18, 19, 20] σ s1 τ t1 := by
    rw [e1, f1]
    exact zF_y (zF_c zF_r (by decide)) (by decide) (by decide)
  have hx : s1 3 3 = t1 20 18 := h1.2.1.2.2.2.2.1
  have hk : t1 20 (3 + 1) = 0 → t1 20 (12 + 1) = 4 := fun q => by
    have z := h1.2.1.2.1.2.2
    rcases z with ⟨z, _⟩ | ⟨_, _, _, _, z, _⟩
    · exact absurd (q.symm.trans z) (by decide)
    · rw [← z]
      exact h1.2.1.2.2.2.1 q
  rw [hx]
  have z := sv_setIn (off := t1 20 18) (v := v) (s := 1) (d := 5) (k := 1) (Or.inr (Or.inl ⟨rfl, rfl, rfl⟩)) h1 hk
  have e3 : ∀ (rc : xp_P Unit) (F G : Unit → xs_S → xp_P Unit), rc.2 3 = s1 3 → (∀ b s, s 3 = s1 3 → F b s = G b s) → xp_b rc F = xp_b rc G := by
    intro rc F G q1 q2
    obtain ⟨o, s⟩ := rc
    cases o with
    | none => rfl
    | some b => exact q2 b s q1
  rw [e3 _ _ (fun _ s3 => xp_b (fm_setWord ((s3 5 1) + t1 20 18) v (s3 3 6) s3) (fun _ s5 => (some (), s5))) ?_ (fun b s q => by rw [q, hx])]
  · rw [xl_e]
    refine zz_m z (fun _ σ2 q => ?_) (fun σ2 q => ?_)
    · exact ⟨q.1, zF_t hF (zF_m q.2 (by decide) (by decide))⟩
    · exact ⟨q.1, zF_t hF (zF_m q.2 (by decide) (by decide))⟩
  · rw [ck_c (d := 5) (k := 1) (Or.inr (Or.inl ⟨rfl, rfl, rfl⟩)) h1.2.1.2.1]
    by_cases e : t1 20 (3 + 1) = 1 ∨ ¬ t1 20 18 + 1 ≤ t1 20 (9 + 1)
    · rw [if_pos e]
      rfl
    · rw [if_neg e]
theorem sv_popWord (h : zQ zs fc fr wt σ τ) : zz_Z (fr_popWord σ) (fy_popWord τ) (fun p σ' r => r.1 = p ∧ zQ zs fc fr wt σ' r.2 ∧ zF [2, 3, 12] [18, 19, 20] σ σ' τ r.2 ∧ jr_R p 65535) (fun σ' r => zW zs σ' r.2 ∧ zF [2, 3, 12] [18, 19, 20] σ σ' τ r.2) := by
  unfold fr_popWord fy_popWord
  have hsp : σ 3 3 = τ 20 18 := h.2.1.2.2.2.2.1
  rw [if_pos (zQ_n h), hsp]
  refine zz_b (sv_wordIn (d := 5) (k := 1) (Or.inr (Or.inl ⟨rfl, rfl, rfl⟩)) h) (fun p σ1 r h1 => ?_) (fun σ1 r h1 => ?_)
  · obtain ⟨q1, q2, q3, q4⟩ := h1
    refine zz_lc (fun s3 e3 => ?_)
    refine zz_lr (fun t3 f3 => ?_)
    have hx : σ1 3 3 = r.2 20 18 := q2.2.1.2.2.2.2.1
    rw [e3, f3, hx]
    exact zz_s ⟨q1, zQ_sp q2, zF_y (zF_c (zF_m q3 (by decide) (by decide)) (by decide)) (by decide) (by decide), q4⟩
  · rw [xl_e]
    exact ⟨h1.1, zF_y (zF_m h1.2 (by decide) (by decide)) (by decide) (by decide)⟩
end ZQ
