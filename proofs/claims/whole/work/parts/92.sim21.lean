/-! The calls, one by one. -/
variable {σ τ : xs_S}
theorem zP_t {m : Nat} {σ0 τ0 : xs_S} {rc : Int32 × xs_S × Nat} {rr : Int32 × xs_S} (hX : zX σ0 σ τ0 τ) (h : zP m σ τ rc rr) : zP m σ0 τ0 rc rr := ⟨h.1, h.2.1, zX_t hX h.2.2.1, h.2.2.2⟩
/-- nothing is done -/
theorem zP_0 {v : Int32} {m : Nat} (h : zN σ τ) : zP m σ τ (v, σ, 0) (v, τ) := ⟨rfl, h, zX_r, Or.inl (Nat.zero_le m)⟩
theorem zP_s {σ0 τ0 : xs_S} (hX : zX σ0 σ τ0 τ) (h : zWU 0 σ τ) : zP 2 σ0 τ0 (xl_l (fr_settle σ) (fun r => (r.1, r.2.1, r.2.2 + 1))) (xl_l (fy_ends τ) (fun r => (r.1, r.2))) := by
  obtain ⟨a, b, c, d⟩ := sb_settle h
  rw [xl_e, xl_e]
  refine ⟨a, b, zX_t hX c, ?_⟩
  rcases d with d | ⟨d1, d2⟩
  · exact Or.inl (Nat.succ_le_succ d)
  · exact Or.inr ⟨congrArg (· + 1) d1, d2⟩
theorem zP_a {fc : Int32 × Int32} {σ0 τ0 : xs_S} (hX : zX σ0 σ τ0 τ) (h : zQ 0 fc fc.1 0 σ τ) (hf : jr_R fc.1 3) : zP 2 σ0 τ0 (xl_l (fr_advance σ) (fun r => (r.1, r.2, 0))) (xl_l (fy_ends τ) (fun r => (r.1, r.2))) := by
  obtain ⟨a, b⟩ := sb_adv h hf
  rw [a, xl_e, xl_e]
  unfold fr_advance
  rw [xl_e]
  exact ⟨rfl, b, ⟨zf_u hX.1 (by decide), zf_u hX.2 (by decide)⟩, Or.inl (Nat.zero_le 2)⟩
theorem zP_w {σ0 τ0 : xs_S} (hX : zX σ0 σ τ0 τ) (h : zH σ τ) : zP 2 σ0 τ0 ((0 : Int32), σ, 0) (xl_l (fy_ends τ) (fun r => (r.1, r.2))) := by
  obtain ⟨a, b⟩ := sb_wnt h
  rw [a, xl_e]
  exact ⟨rfl, b, hX, Or.inl (Nat.zero_le 2)⟩
/-- an instruction that goes on to the next -/
theorem si_a {C : xp_P Unit} {R : xs_S} {fc : Int32 × Int32} {σ0 τ0 σ1 τ1 : xs_S} (hX : zX σ0 σ1 τ0 τ1) (hf : jr_R fc.1 3) (hz : zz_Z C R (fun (_ : Unit) σ' τ' => zQ 0 fc fc.1 0 σ' τ' ∧ zX σ1 σ' τ1 τ') (fun σ' τ' => zW 0 σ' τ' ∧ zX σ1 σ' τ1 τ')) : zP 2 σ0 τ0 (xc_m C (fun _ s => xl_l (fr_advance s) (fun r => (r.1, r.2, 0))) (fun s => xl_l (fr_settle s) (fun r => (r.1, r.2.1, r.2.2 + 1)))) (xl_l R (fun s => xl_l (fy_ends s) (fun r => (r.1, r.2)))) := by
  obtain ⟨o, s⟩ := C
  rw [xl_e]
  cases o with
  | some a =>
    obtain ⟨q, X⟩ := hz.1 a s rfl
    rw [xc_s]
    exact zP_a (zX_t hX X) q hf
  | none =>
    obtain ⟨q, X⟩ := hz.2 s rfl
    rw [xc_n]
    exact zP_s (zX_t hX X) (Or.inl q)
/-- an instruction that goes elsewhere -/
theorem si_w {C : xp_P Unit} {R : xs_S} {σ0 τ0 σ1 τ1 : xs_S} (hX : zX σ0 σ1 τ0 τ1) (hz : zz_Z C R (fun (_ : Unit) σ' τ' => zH σ' τ' ∧ zX σ1 σ' τ1 τ') (fun σ' τ' => zWU 0 σ' τ' ∧ zX σ1 σ' τ1 τ')) : zP 2 σ0 τ0 (xc_m C (fun _ s => ((0 : Int32), s, 0)) (fun s => xl_l (fr_settle s) (fun r => (r.1, r.2.1, r.2.2 + 1)))) (xl_l R (fun s => xl_l (fy_ends s) (fun r => (r.1, r.2)))) := by
  obtain ⟨o, s⟩ := C
  rw [xl_e]
  cases o with
  | some a =>
    obtain ⟨q, X⟩ := hz.1 a s rfl
    rw [xc_s]
    exact zP_w (zX_t hX X) q
  | none =>
    obtain ⟨q, X⟩ := hz.2 s rfl
    rw [xc_n]
    exact zP_s (zX_t hX X) q
theorem zQ_ac {zs : Int32} {fc : Int32 × Int32} {fr wt v : Int32} (h : zQ zs fc fr wt σ τ) : zQ zs fc fr wt (xu_u σ 3 10 v) (xu_u τ 20 25 v) := by
  obtain ⟨q1, ⟨a0, a1, a2, a3, a4, a5, a6, a7, a8, a9, _⟩, q3⟩ := h
  exact ⟨q1, ⟨a0, a1, a2, a3, a4, a5, a6, a7, a8, a9, rfl⟩, q3⟩
theorem zW_ac {zs v : Int32} (h : zW zs σ τ) : zW zs σ (xu_u τ 20 25 v) := h
/-- an instruction that fills the accumulator -/
theorem si_c {C : xp_P Int32} {R : Int32 × xs_S} {fc : Int32 × Int32} {σ0 τ0 σ1 τ1 : xs_S} (hX : zX σ0 σ1 τ0 τ1) (hf : jr_R fc.1 3) (hz : zz_Z C R (fun p σ' r => r.1 = p ∧ zQ 0 fc fc.1 0 σ' r.2 ∧ zX σ1 σ' τ1 r.2) (fun σ' r => zW 0 σ' r.2 ∧ zX σ1 σ' τ1 r.2)) : zP 2 σ0 τ0 (xc_m C (fun b s => xl_l (xu_u s 3 10 b) (fun s => xl_l (fr_advance s) (fun r => (r.1, r.2, 0)))) (fun s => xl_l (fr_settle s) (fun r => (r.1, r.2.1, r.2.2 + 1)))) (xl_l R (fun r => xl_l (xu_u r.2 20 25 r.1) (fun s => xl_l (fy_ends s) (fun r => (r.1, r.2))))) := by
  obtain ⟨o, s⟩ := C
  rw [xl_e, xl_e]
  cases o with
  | some a =>
    obtain ⟨e, q, X⟩ := hz.1 a s rfl
    rw [xc_s, xl_e, e]
    have X2 := zX_t hX X
    exact zP_a ⟨zf_u X2.1 (by decide), zf_u X2.2 (by decide)⟩ (zQ_ac q) hf
  | none =>
    obtain ⟨q, X⟩ := hz.2 s rfl
    rw [xc_n]
    have X2 := zX_t hX X
    exact zP_s ⟨X2.1, zf_u X2.2 (by decide)⟩ (Or.inl (zW_ac q))
theorem jm_w (x : Int32) : jr_R (x &&& 65535) 65535 := by
  obtain ⟨q, hq, e⟩ : ∃ q : Nat, q < 65536 ∧ x &&& 65535 = nI q := pk_andE x 16 (by decide)
  rw [e]
  exact bt_j (n := q) (m := 65535) (by omega) (by decide)
theorem jm_b (x : Int32) : ∃ q : Nat, q < 256 ∧ x &&& 255 = nI q := pk_andE x 8 (by decide)
theorem zI_of {a : Int32} (h0 : ¬ a < 0) (h : a ≤ (2 : Int32)) : ∃ d k, zI a d k := by
  obtain ⟨j, hj, rfl⟩ := vp_in_of (vs_2 h0 h) (by decide)
  have : j = 0 ∨ j = 1 ∨ j = 2 := by omega
  rcases this with rfl | rfl | rfl
  · exact ⟨4, 0, Or.inl ⟨by decide, rfl, rfl⟩⟩
  · exact ⟨5, 1, Or.inr (Or.inl ⟨by decide, rfl, rfl⟩)⟩
  · exact ⟨6, 2, Or.inr (Or.inr ⟨by decide, rfl, rfl⟩)⟩
/-- down or not -/
theorem zP_d {A : Int32 × xs_S × Nat} {B : Int32 × xs_S} (h : zN σ τ) (k : zE σ τ → zP 2 σ τ A B) : zP 2 σ τ (if (σ 1 12) = 0 then A else ((-1 : Int32), σ, 0)) (if (τ 18 8) = 0 then B else ((-1 : Int32), τ)) := by
  have e := h.1.2.2.2.2
  by_cases c : σ 1 12 = 0
  · rw [if_pos c, if_pos (e.symm.trans c)]
    exact k (zN_E h c)
  · rw [if_neg c, if_neg (fun z => c (e.trans z))]
    exact zP_0 h
theorem sm_load {a1 a2 : Int32} (h : zN σ τ) : zP 2 σ τ (fr_load a1 a2 σ) (fy_load a1 a2 τ) := by
  unfold fr_load fy_load
  refine zP_d h (fun hE => ?_)
  obtain ⟨q, X⟩ := sb_begin hE
  by_cases c1 : a1 = 1
  · rw [if_pos c1, if_pos c1, xl_e, xl_e]
    exact si_a (fc := (σ 3 5, σ 3 4)) X hE.2.2.2.2 (sv_loadStack q (jm_w a2))
  · rw [if_neg c1, if_neg c1]
    by_cases c2 : a1 = 2
    · rw [if_pos c2, if_pos c2, xl_e, xl_e]
      exact si_a (fc := (σ 3 5, σ 3 4)) X hE.2.2.2.2 (sv_loadData q (jm_w a2))
    · rw [if_neg c2, if_neg c2]
      exact zP_0 h
theorem sm_read {a1 a2 : Int32} (h : zN σ τ) : zP 2 σ τ (fr_read a1 a2 σ) (fy_read a1 a2 τ) := by
  unfold fr_read fy_read
  refine zP_d h (fun hE => ?_)
  obtain ⟨q, X⟩ := sb_begin hE
  by_cases c1 : a1 < 0
  · rw [if_pos c1, if_pos c1]
    exact zP_0 h
  · rw [if_neg c1, if_neg c1]
    by_cases c2 : a1 ≤ 2
    · rw [if_pos c2, if_pos c2, xl_e, xl_e]
      obtain ⟨d, k, hI⟩ := zI_of c1 c2
      exact si_c (fc := (σ 3 5, σ 3 4)) X hE.2.2.2.2 (zz_m (sv_wordIn hI q) (fun _ _ z => ⟨z.1, z.2.1, zX_F z.2.2.1 (by decide) (by decide)⟩) (fun _ z => ⟨z.1, zX_F z.2 (by decide) (by decide)⟩))
    · rw [if_neg c2, if_neg c2]
      exact zP_0 h
theorem sm_write {a1 a2 a3 : Int32} (h : zN σ τ) : zP 2 σ τ (fr_write a1 a2 a3 σ) (fy_write a1 a2 a3 τ) := by
  unfold fr_write fy_write
  refine zP_d h (fun hE => ?_)
  obtain ⟨q, X⟩ := sb_begin hE
  by_cases c1 : a1 < 0
  · rw [if_pos c1, if_pos c1]
    exact zP_0 h
  · rw [if_neg c1, if_neg c1]
    by_cases c2 : a1 ≤ 2
    · rw [if_pos c2, if_pos c2, xl_e, xl_e]
      obtain ⟨d, k, hI⟩ := zI_of c1 c2
      exact si_a (fc := (σ 3 5, σ 3 4)) X hE.2.2.2.2 (zz_m (sv_setWordIn hI q) (fun _ _ z => ⟨z.1, zX_F z.2 (by decide) (by decide)⟩) (fun _ z => ⟨z.1, zX_F z.2 (by decide) (by decide)⟩))
    · rw [if_neg c2, if_neg c2]
      exact zP_0 h
theorem sm_push {a1 : Int32} (h : zN σ τ) : zP 2 σ τ (fr_push a1 σ) (fy_push a1 τ) := by
  unfold fr_push fy_push
  refine zP_d h (fun hE => ?_)
  obtain ⟨q, X⟩ := sb_begin hE
  rw [xl_e, xl_e]
  exact si_a (fc := (σ 3 5, σ 3 4)) X hE.2.2.2.2 (zz_m (sv_pushWord q) (fun _ _ z => ⟨z.1, zX_F z.2 (by decide) (by decide)⟩) (fun _ z => ⟨z.1, zX_F z.2 (by decide) (by decide)⟩))
theorem sm_pop (h : zN σ τ) : zP 2 σ τ (fr_pop σ) (fy_pop τ) := by
  unfold fr_pop fy_pop
  refine zP_d h (fun hE => ?_)
  obtain ⟨q, X⟩ := sb_begin hE
  rw [xl_e, xl_e]
  exact si_c (fc := (σ 3 5, σ 3 4)) X hE.2.2.2.2 (zz_m (sv_popWord q) (fun _ _ z => ⟨z.1, z.2.1, zX_F z.2.2.1 (by decide) (by decide)⟩) (fun _ z => ⟨z.1, zX_F z.2 (by decide) (by decide)⟩))
theorem sm_far {a1 a2 a3 : Int32} (h : zN σ τ) : zP 2 σ τ (fr_far a1 a2 a3 σ) (fy_far a1 a2 a3 τ) := by
  unfold fr_far fy_far
  refine zP_d h (fun hE => ?_)
  obtain ⟨q, X⟩ := sb_begin hE
  rw [xl_e, xl_e]
  exact si_w X (sv_transfer q hE.2.2.2.2 (jm_w a1))
theorem sm_back (h : zN σ τ) : zP 2 σ τ (fr_back σ) (fy_back τ) := by
  unfold fr_back fy_back
  refine zP_d h (fun hE => ?_)
  obtain ⟨q, X⟩ := sb_begin hE
  rw [xl_e, xl_e]
  exact si_w X (zz_m (sv_goBack q hE.2.2.2.2) (fun _ _ z => ⟨zH_G z.1, z.2⟩) (fun _ z => ⟨Or.inl z.1, z.2⟩))
theorem sm_trap {a1 : Int32} (h : zN σ τ) : zP 2 σ τ (fr_trap a1 σ) (fy_trap a1 τ) := by
  unfold fr_trap fy_trap
  refine zP_d h (fun hE => ?_)
  obtain ⟨q, X⟩ := sb_begin hE
  obtain ⟨n, hn, e⟩ := jm_b a1
  rw [xl_e, xl_e]
  exact si_w X (zz_m (sv_deliver q hE.2.2.2.2 hn e (fun z => absurd z (by decide))) (fun _ _ z => ⟨zH_G z.1, z.2⟩) (fun _ z => ⟨Or.inl z.1, z.2⟩))
theorem sm_end (h : zN σ τ) : zP 2 σ τ (fr_end σ) (fy_end τ) := by
  unfold fr_end fy_end
  refine zP_d h (fun hE => ?_)
  obtain ⟨q, X⟩ := sb_begin hE
  have e1 : fg_copy_7_3 σ 3 5 = σ 3 5 := q.2.2.1.1
  have e2 : fy_begins τ 20 20 = σ 3 5 := q.2.2.1.2.2
  rw [xl_e, xl_e, e1, e2]
  by_cases c : (σ 3 5) &&& (2 : Int32) = 0
  · rw [if_pos c, if_pos c]
    exact si_w X (zz_m (sv_goBack q hE.2.2.2.2) (fun _ _ z => ⟨zH_G z.1, z.2⟩) (fun _ z => ⟨Or.inl z.1, z.2⟩))
  · rw [if_neg c, if_neg c]
    exact si_w X (sv_endTask q hE.2.2.2.2)
