/-! An instruction begins, ends, and what is raised is settled. -/
variable {σ τ : xs_S}
def rs_P (τ s : xs_S) (j : Nat) : Prop := (∀ k, k < j → s 20 k = τ 21 k) ∧ zf_F [20] τ s
theorem rs_x {s : xs_S} {j n : Nat} {f : xs_S → xs_S} (h : rs_P τ s j) (k : ∀ s', rs_P τ s' (j + 1) → rs_P τ (f s') n) : rs_P τ (xl_l (xu_u s 20 j (s 21 j)) f) n := by
  refine k (xu_u s 20 j (s 21 j)) ⟨fun i hi => ?_, zf_u h.2 (by decide)⟩
  by_cases e : i = j
  · subst e
    rw [xu_rows]
    show (if i = i then s 21 i else _) = _
    rw [if_pos rfl, h.2 21 (by decide)]
  · rw [xu_off (fun q => e q.2)]
    exact h.1 i (by omega)
theorem rs_e (τ : xs_S) : rs_P τ (fy_restore τ) 26 := by
  unfold fy_restore
  have h : rs_P τ τ 0 := ⟨fun k hk => absurd hk (by omega), zf_r⟩
  repeat refine rs_x h (fun _ h => ?_)
  exact h
def kp_P (τ s : xs_S) (j : Nat) : Prop := (∀ k, k < j → s 21 k = τ 20 k) ∧ zf_F [21] τ s
def kp_K (τ s : xs_S) : Prop := (∀ k, k < 26 → s 21 k = τ 20 k) ∧ zf_F [18, 21] τ s ∧ s 18 9 = -1 ∧ ∀ k, k ≠ 9 → s 18 k = τ 18 k
theorem kp_x {s : xs_S} {j : Nat} {f : xs_S → xs_S} (h : kp_P τ s j) (k : ∀ s', kp_P τ s' (j + 1) → kp_K τ (f s')) : kp_K τ (xl_l (xu_u s 21 j (s 20 j)) f) := by
  refine k (xu_u s 21 j (s 20 j)) ⟨fun i hi => ?_, zf_u h.2 (by decide)⟩
  by_cases e : i = j
  · subst e
    rw [xu_rows]
    show (if i = i then s 20 i else _) = _
    rw [if_pos rfl, h.2 20 (by decide)]
  · rw [xu_off (fun q => e q.2)]
    exact h.1 i (by omega)
theorem kp_z {s : xs_S} (h : kp_P τ s 26) : kp_K τ (xl_l (xu_u s 18 9 (-1 : Int32)) (fun s27 => s27)) := by
  rw [xl_e]
  refine ⟨fun k hk => ?_, zf_u (zf_m h.2 (by decide)) (by decide), ?_, fun k hk => ?_⟩
  · rw [xu_ne (by decide)]
    exact h.1 k hk
  · rw [xu_rows]
    rfl
  · rw [xu_off (fun q => hk q.2), h.2 18 (by decide)]
theorem kp_e (τ : xs_S) : kp_K τ (fy_keep τ) := by
  unfold fy_keep
  have h : kp_P τ τ 0 := ⟨fun k hk => absurd hk (by omega), zf_r⟩
  iterate 26 refine kp_x h (fun _ h => ?_)
  exact kp_z h
theorem zb_q {c d0 d1 d2 q q' : Nat → Int32} (h : zb_B c d0 d1 d2 q) (e : ∀ k, k < 26 → q' k = q k) : zb_B c d0 d1 d2 q' := by
  unfold zb_B zr_R zs_S
  rw [e 0 (by decide), e 1 (by decide), e 2 (by decide), e (3 + 0) (by decide), e (3 + 1) (by decide), e (3 + 2) (by decide), e (6 + 0) (by decide), e (6 + 1) (by decide), e (6 + 2) (by decide), e (9 + 0) (by decide), e (9 + 1) (by decide), e (9 + 2) (by decide), e (12 + 0) (by decide), e (12 + 1) (by decide), e (12 + 2) (by decide), e (15 + 0) (by decide), e (15 + 1) (by decide), e (15 + 2) (by decide), e 18 (by decide), e 19 (by decide), e 20 (by decide), e 21 (by decide), e 22 (by decide), e 23 (by decide), e 24 (by decide), e 25 (by decide)]
  try rw [e 4 (by decide)]
  exact h
theorem zg_X {σ' τ' : xs_S} (h : zg_G σ τ) (e1 : σ' 1 = σ 1) (e11 : σ' 11 = σ 11) (e : ∀ k, k ≠ 9 → k ≠ 10 → k ≠ 11 → τ' 18 k = τ 18 k) : zg_G σ' τ' := by
  unfold zg_G
  rw [e1, e11, e 1 (by decide) (by decide) (by decide), e 2 (by decide) (by decide) (by decide), e 3 (by decide) (by decide) (by decide), e 4 (by decide) (by decide) (by decide), e 8 (by decide) (by decide) (by decide)]
  exact h
theorem zm_X {σ' τ' : xs_S} (h : zm_M σ τ) (e2 : σ' 2 = σ 2) (e12 : σ' 12 = σ 12) (e19 : τ' 19 = τ 19) (e : τ' 18 7 = τ 18 7) : zm_M σ' τ' := by
  unfold zm_M
  rw [e2, e12, e19, e]
  exact h
/-- between instructions; the machine may be down -/
def zN (σ τ : xs_S) : Prop := (σ 11 3 = τ 18 1 ∧ σ 1 9 = τ 18 2 ∧ σ 1 10 = τ 18 3 ∧ σ 1 11 = τ 18 4 ∧ σ 1 12 = τ 18 8) ∧ zm_M σ τ ∧ zb_B (σ 3) (σ 4) (σ 5) (σ 6) (τ 20)
theorem zN_E (h : zN σ τ) (e : σ 1 12 = 0) : zE σ τ := ⟨⟨h.1.1, h.1.2.1, h.1.2.2.1, h.1.2.2.2.1, e, h.1.2.2.2.2.symm.trans e⟩, h.2.1, h.2.2⟩
theorem zE_N (h : zE σ τ) : zN σ τ := ⟨⟨h.1.1, h.1.2.1, h.1.2.2.1, h.1.2.2.2.1, h.1.2.2.2.2.1.trans h.1.2.2.2.2.2.symm⟩, h.2.1, h.2.2⟩
theorem zQ_mk (hG : zg_G σ τ) (hM : zm_M σ τ) (h9 : τ 18 9 = -1) (hB : zb_B (σ 3) (σ 4) (σ 5) (σ 6) (τ 20)) (hK : zb_B (σ 7) (σ 8) (σ 9) (σ 10) (τ 21)) : zQ (τ 18 10) (σ 3 5, σ 3 4) (σ 3 5) (τ 18 11) σ τ := by
  obtain ⟨hR, h5, hj⟩ := hB
  have hR' := hR
  obtain ⟨_, _, _, _, _, _, ⟨h6, _⟩, _, _, ⟨h24, j24⟩, _⟩ := hR'
  exact ⟨⟨hG, hM, h9, h24, j24, h6⟩, hR, ⟨rfl, rfl, h5.symm⟩, ⟨rfl, rfl⟩, hK⟩
theorem sb_begin (h : zE σ τ) : zQ 0 (σ 3 5, σ 3 4) (σ 3 5) 0 (fg_copy_7_3 σ) (fy_begins τ) ∧ zX σ (fg_copy_7_3 σ) τ (fy_begins τ) := by
  obtain ⟨hG, hM, hB⟩ := h
  have F : zf_F [7, 8, 9, 10] σ (fg_copy_7_3 σ) := cp_F zf_r (by decide) (by decide) (by decide) (by decide)
  have B : zb_B (fg_copy_7_3 σ 7) (fg_copy_7_3 σ 8) (fg_copy_7_3 σ 9) (fg_copy_7_3 σ 10) (τ 20) := cp_73 hB
  have K := kp_e τ
  have e : fy_begins τ = xu_u (xu_u (fy_keep τ) 18 10 ((0 : Int32) &&& 1)) 18 11 ((0 : Int32) &&& 1) := rfl
  rw [e, show ((0 : Int32) &&& 1) = 0 by decide]
  generalize fg_copy_7_3 σ = s at F B ⊢
  generalize fy_keep τ = t at K ⊢
  obtain ⟨k1, k2, k3, k4⟩ := K
  have r20 : xu_u (xu_u t 18 10 0) 18 11 0 20 = τ 20 := by rw [xu_row (by decide), xu_row (by decide), k2 20 (by decide)]
  have r19 : xu_u (xu_u t 18 10 0) 18 11 0 19 = τ 19 := by rw [xu_row (by decide), xu_row (by decide), k2 19 (by decide)]
  have r21 : xu_u (xu_u t 18 10 0) 18 11 0 21 = t 21 := by rw [xu_row (by decide), xu_row (by decide)]
  have r18 : ∀ k, k ≠ 9 → k ≠ 10 → k ≠ 11 → xu_u (xu_u t 18 10 0) 18 11 0 18 k = τ 18 k := fun k a b c => by rw [xu_off (fun q => c q.2), xu_off (fun q => b q.2), k4 k a]
  have r9 : xu_u (xu_u t 18 10 0) 18 11 0 18 9 = -1 := by rw [xu_off (by decide), xu_off (by decide), k3]
  have FT : zf_F [18, 21] τ (xu_u (xu_u t 18 10 0) 18 11 0) := zf_u (zf_u k2 (by decide)) (by decide)
  have r10 : xu_u (xu_u t 18 10 0) 18 11 0 18 10 = 0 := rfl
  have r11 : xu_u (xu_u t 18 10 0) 18 11 0 18 11 = 0 := rfl
  generalize xu_u (xu_u t 18 10 0) 18 11 0 = u at r20 r19 r21 r18 r9 FT r10 r11 ⊢
  refine ⟨?_, zf_m F (by decide), zf_m FT (by decide)⟩
  have q := zQ_mk (σ := s) (τ := u) (zg_X hG (F 1 (by decide)) (F 11 (by decide)) r18) (zm_X hM (F 2 (by decide)) (F 12 (by decide)) r19 (r18 7 (by decide) (by decide) (by decide))) r9 (by rw [F 3 (by decide), F 4 (by decide), F 5 (by decide), F 6 (by decide), r20]; exact hB) (zb_q B (fun k hk => by rw [r21, k1 k hk]))
  rw [r10, r11, F 3 (by decide)] at q
  exact q
/-- the registers are given back, and kept -/
theorem sb_k (hG : zg_G σ τ) (hM : zm_M σ τ) (hB : zb_B (σ 7) (σ 8) (σ 9) (σ 10) (τ 20)) : ∃ zs f ip wt, zQ zs (f, ip) f wt (fg_copy_3_7 σ) (fy_keep τ) ∧ jr_R f 3 ∧ zX σ (fg_copy_3_7 σ) τ (fy_keep τ) := by
  have F : zf_F [3, 4, 5, 6] σ (fg_copy_3_7 σ) := cq_F zf_r (by decide) (by decide) (by decide) (by decide)
  have B : zb_B (fg_copy_3_7 σ 3) (fg_copy_3_7 σ 4) (fg_copy_3_7 σ 5) (fg_copy_3_7 σ 6) (τ 20) := cp_37 hB
  obtain ⟨k1, k2, k3, k4⟩ := kp_e τ
  generalize fg_copy_3_7 σ = s at F B ⊢
  generalize fy_keep τ = t at k1 k2 k3 k4 ⊢
  refine ⟨_, _, _, _, zQ_mk (zg_X hG (F 1 (by decide)) (F 11 (by decide)) (fun k a _ _ => k4 k a)) (zm_X hM (F 2 (by decide)) (F 12 (by decide)) (k2 19 (by decide)) (k4 7 (by decide))) k3 (by rw [k2 20 (by decide)]; exact B) ?_, B.2.2, zf_m F (by decide), zf_m k2 (by decide)⟩
  rw [F 7 (by decide), F 8 (by decide), F 9 (by decide), F 10 (by decide)]
  exact zb_q hB k1
/-- what a raised fault leaves, given back -/
theorem sb_r {zs : Int32} (h : zW zs σ τ) : zg_G σ (fy_restore τ) ∧ zm_M σ (fy_restore τ) ∧ zb_B (σ 7) (σ 8) (σ 9) (σ 10) (fy_restore τ 20) ∧ zf_F [20] τ (fy_restore τ) := by
  obtain ⟨k1, k2⟩ := rs_e τ
  obtain ⟨⟨hG, hM, _⟩, _, hB⟩ := h
  refine ⟨zg_X hG rfl rfl (fun k _ _ _ => by rw [k2 18 (by decide)]), zm_X hM rfl rfl (k2 19 (by decide)) (by rw [k2 18 (by decide)]), zb_q hB k1, k2⟩
theorem xc_s {α β : Type} {a : α} {s : xs_S} {f : α → xs_S → β} {g : xs_S → β} : xc_m (some a, s) f g = f a s := rfl
theorem xc_n {α β : Type} {s : xs_S} {f : α → xs_S → β} {g : xs_S → β} : xc_m (none, s) f g = g s := rfl
/-- a call's two answers -/
def zP (m : Nat) (σ τ : xs_S) (rc : Int32 × xs_S × Nat) (rr : Int32 × xs_S) : Prop := rc.1 = rr.1 ∧ zN rc.2.1 rr.2 ∧ zX σ rc.2.1 τ rr.2 ∧ (rc.2.2 ≤ m ∨ (rc.2.2 = m + 1 ∧ ¬ rc.2.1 1 12 = 0))
theorem zN_up {zs : Int32} (h : zG zs σ τ) : zN (xu_u σ 1 12 ((0 : Int32) &&& 1)) τ := by
  have e := zH_G h
  have e0 := e.1.1.2.2.2.2.1
  have : xu_u σ 1 12 ((0 : Int32) &&& 1) = σ := by
    funext a b
    show (if a = 1 then (if b = 12 then ((0 : Int32) &&& 1) else σ a b) else σ a b) = σ a b
    by_cases c : a = 1
    · rw [if_pos c]
      by_cases d : b = 12
      · rw [if_pos d, c, d]
        exact (show ((0 : Int32) &&& 1) = 0 by decide).trans e0.symm
      · rw [if_neg d]
    · rw [if_neg c]
  rw [this]
  exact zE_N e.1
theorem zG_n {zs : Int32} (h : zG zs σ τ) : fy_isRaised τ = 0 := by
  obtain ⟨_, _, _, h⟩ := h
  exact zQ_n h
theorem zN_dn {zs : Int32} (h : zW zs σ τ) : zN (xu_u (fg_copy_3_7 σ) 1 12 ((1 : Int32) &&& 1)) (xu_u (fy_restore τ) 18 8 ((1 : Int32) &&& 1)) ∧ zX σ (xu_u (fg_copy_3_7 σ) 1 12 ((1 : Int32) &&& 1)) τ (xu_u (fy_restore τ) 18 8 ((1 : Int32) &&& 1)) := by
  obtain ⟨hG, hM, hB, k2⟩ := sb_r h
  have F : zf_F [3, 4, 5, 6] σ (fg_copy_3_7 σ) := cq_F zf_r (by decide) (by decide) (by decide) (by decide)
  have B := cp_37 hB
  generalize fg_copy_3_7 σ = s at F B ⊢
  generalize fy_restore τ = t at hG hM B k2 ⊢
  refine ⟨⟨?_, ?_, ?_⟩, zf_u (zf_m F (by decide)) (by decide), zf_u (zf_m k2 (by decide)) (by decide)⟩
  · obtain ⟨g1, g2, g3, g4, _, _⟩ := hG
    rw [← F 11 (by decide)] at g1
    rw [← F 1 (by decide)] at g2 g3 g4
    exact ⟨g1, g2, g3, g4, rfl⟩
  · refine zm_X hM ?_ ?_ ?_ ?_
    · rw [xu_row (by decide)]
      exact F 2 (by decide)
    · rw [xu_row (by decide)]
      exact F 12 (by decide)
    · rw [xu_row (by decide)]
    · rw [xu_off (by decide)]
  · rw [xu_row (by decide), xu_row (by decide), xu_row (by decide), xu_row (by decide), xu_row (by decide)]
    exact B
theorem vc_e {v c : Nat} (h2 : v ≤ 14) (hc : c < 65536) : nI (65536 * v + c) / 65536 = nI v ∧ nI (65536 * v + c) - nI (65536 * v + c) / 65536 * 65536 = nI c := by
  have e : (65536 : Int32) = nI 65536 := by decide
  rw [e]
  constructor
  · rw [pk_div (by omega) (by decide) (by decide), show (65536 * v + c) / 65536 = v by omega]
  · rw [pk_rem (by omega) (by decide) (by decide), show (65536 * v + c) % 65536 = c by omega]
theorem vc_c {v : Nat} (h1 : 10 ≤ v) (h2 : v ≤ 14) : ¬ (if nI v = (8 : Int32) then (1 : Int32) else (if nI v < (10 : Int32) then (0 : Int32) else (if (14 : Int32) < nI v then (0 : Int32) else (1 : Int32)))) = 0 := by
  have : v = 10 ∨ v = 11 ∨ v = 12 ∨ v = 13 ∨ v = 14 := by omega
  rcases this with rfl | rfl | rfl | rfl | rfl <;> decide
/-- the second try -/
theorem sb_2 {v : Int32} {zs : Int32} {σ0 τ0 : xs_S} (h : zW zs σ τ) (hX : zX σ0 σ τ0 τ) : zP 1 σ0 τ0 (xl_l (fg_copy_3_7 σ) (fun s9 => xc_m (fr_deliver (8 : Int32) (0 : Int32) (0 : Int32) s9) (fun _ s11 => xl_l ((xu_u s11 1 12 ((0 : Int32) &&& 1))) (fun s13 => (v, s13, 1))) (fun s12 => xl_l ((fg_copy_3_7 s12)) (fun s14 => xl_l ((xu_u s14 1 12 ((1 : Int32) &&& 1))) (fun s15 => (v, s15, 2)))))) (xl_l (fy_deliver (8 : Int32) (0 : Int32) (0 : Int32) (fy_keep (fy_restore τ))) (fun s6 => xl_l (if (fy_isRaised s6) = 0 then s6 else (xu_u (fy_restore s6) 18 8 ((1 : Int32) &&& 1))) (fun s7 => (v, s7)))) := by
  obtain ⟨hG, hM, hB, k2⟩ := sb_r h
  obtain ⟨zs1, f, ip, wt, q, j, X⟩ := sb_k hG hM hB
  have hz := sv_deliver (vec := 8) (tr := 0) (cd := 0) (n := 8) q j (by decide) (by decide) (fun _ => by decide)
  rw [xl_e, xl_e]
  have X2 : zX σ0 (fg_copy_3_7 σ) τ0 (fy_keep (fy_restore τ)) := zX_t hX (zX_t ⟨zf_r, zf_m k2 (by decide)⟩ X)
  generalize fy_deliver 8 0 0 (fy_keep (fy_restore τ)) = r at hz ⊢
  generalize fr_deliver 8 0 0 (fg_copy_3_7 σ) = c at hz ⊢
  obtain ⟨o, σ1⟩ := c
  cases o with
  | some a =>
    obtain ⟨g, X3⟩ := hz.1 a σ1 rfl
    rw [xc_s, xl_e, if_pos (zG_n g), xl_e]
    exact ⟨rfl, zN_up g, ⟨zf_u (zX_t X2 X3).1 (by decide), (zX_t X2 X3).2⟩, Or.inl (Nat.le_refl 1)⟩
  | none =>
    obtain ⟨g, X3⟩ := hz.2 σ1 rfl
    rw [xc_n, xl_e, xl_e, if_neg (zW_n g), xl_e]
    obtain ⟨n1, n2⟩ := zN_dn g
    exact ⟨rfl, n1, zX_t (zX_t X2 X3) n2, Or.inr ⟨rfl, by show ¬ ((1 : Int32) &&& 1) = 0; decide⟩⟩
/-- what is raised is settled -/
theorem sb_settle (h : zWU 0 σ τ) : zP 1 σ τ (fr_settle σ) (fy_ends τ) := by
  have hx : zx_X σ τ := by
    rcases h with h | h
    · exact h.1
    · exact h.1
  have hn : ¬ fy_isRaised τ = 0 := by
    rcases h with h | h
    · exact zW_n h
    · exact zU_n h
  obtain ⟨v, c, v1, v2, hc, e0, e1, e9⟩ := hx.2.2
  obtain ⟨d1, d2⟩ := vc_e v2 hc
  have hs : ∃ t, (if τ 18 10 = 0 then fy_restore τ else τ) = t ∧ zg_G σ t ∧ zm_M σ t ∧ zb_B (σ 7) (σ 8) (σ 9) (σ 10) (t 20) ∧ zf_F [20] τ t := by
    rcases h with h | h
    · rw [if_pos h.2.1]
      exact ⟨_, rfl, sb_r h⟩
    · rw [if_neg (by rw [h.2.1]; decide)]
      exact ⟨_, rfl, h.1.1, h.1.2.1, h.2.2, zf_r⟩
  obtain ⟨t, et, hG, hM, hB, k2⟩ := hs
  obtain ⟨zs1, f, ip, wt, q, j, X⟩ := sb_k hG hM hB
  have X2 : zX σ (fg_copy_3_7 σ) τ (fy_keep t) := zX_t ⟨zf_r, zf_m k2 (by decide)⟩ X
  have hz := sv_deliver (vec := nI v) (tr := 0) (cd := nI c) (n := v) q j (by omega) rfl (fun _ => vc_c v1 v2)
  have e3 : (65536 : Int32) * nI v + nI c = nI (65536 * v + c) := by rw [show (65536 : Int32) = nI 65536 by decide, pk_mul, nI_add]
  unfold fr_settle fy_ends
  rw [if_neg hn, e0, e1, e9, xl_e, xl_e, xl_e, xl_e, xl_e, xl_e, xl_e, et, e3, d2, d1, xl_e]
  generalize fy_deliver (nI v) 0 (nI c) (fy_keep t) = r at hz ⊢
  generalize fr_deliver (nI v) 0 (nI c) (fg_copy_3_7 σ) = w at hz ⊢
  obtain ⟨o, σ1⟩ := w
  cases o with
  | some a =>
    obtain ⟨g, X3⟩ := hz.1 a σ1 rfl
    rw [xc_s, xl_e, if_pos (zG_n g), xl_e, if_pos (zG_n g), xl_e]
    exact ⟨rfl, zN_up g, ⟨zf_u (zX_t X2 X3).1 (by decide), (zX_t X2 X3).2⟩, Or.inl (Nat.zero_le 1)⟩
  | none =>
    obtain ⟨g, X3⟩ := hz.2 σ1 rfl
    rw [xc_n, if_neg (zW_n g)]
    exact sb_2 g (zX_t X2 X3)
/-- an instruction that goes on to the next -/
theorem sb_adv {fc : Int32 × Int32} {zs : Int32} (h : zQ zs fc fc.1 0 σ τ) (hf : jr_R fc.1 3) : fy_ends τ = (0, xu_u τ 20 19 (fy_nextIp τ)) ∧ zN (xu_u σ 3 4 (fr_next σ)) (xu_u τ 20 19 (fy_nextIp τ)) := by
  constructor
  · unfold fy_ends
    rw [if_pos (zQ_n h), if_pos h.2.2.2.1.2, xl_e]
  · obtain ⟨n1, n2⟩ := zQ_nx h
    rw [n1, n2]
    obtain ⟨⟨hG, hM, _⟩, ⟨a0, a1, a2, a3, a4, _, a6⟩, ⟨f1, _, f3⟩, _⟩ := h
    refine ⟨⟨hG.1, hG.2.1, hG.2.2.1, hG.2.2.2.1, hG.2.2.2.2.1.trans hG.2.2.2.2.2.symm⟩, hM, ⟨a0, a1, a2, a3, a4, rfl, a6⟩, f1.trans f3.symm, ?_⟩
    show jr_R (σ 3 5) 3
    rw [f1]
    exact hf
theorem sb_wnt (h : zH σ τ) : fy_ends τ = (0, τ) ∧ zN σ τ := by
  refine ⟨?_, zE_N h.1⟩
  unfold fy_ends
  rw [if_pos (zi_n h.2.1), if_neg (by rw [h.2.2]; decide), xl_e]
