/-! Through a gate; faults and traps are delivered. -/
variable {zs : Int32}
section ZA
variable {fc : Int32 × Int32} {fr wt : Int32} {σ τ : xs_S}
theorem zQ_cs {σ' τ' : xs_S} {fc' : Int32 × Int32} {fr' wt' : Int32} (h : zQ zs fc fr wt σ τ) (h' : zQ zs fc' fr' wt' σ' τ') (e : σ' 4 = σ 4) : τ' 20 0 = τ 20 0 := by
  rw [← h'.2.1.1.1, ← h.2.1.1.1, e]
theorem zQ_ip (h : zQ zs fc fr wt σ τ) : σ 3 4 = fc.2 ∧ τ 20 19 = fc.2 := ⟨h.2.2.1.2.1, h.2.1.2.2.2.2.2.1.symm.trans h.2.2.1.2.1⟩
theorem zQ_nx (h : zQ zs fc fr wt σ τ) : fr_next σ = (fc.2 + 1) &&& 65535 ∧ fy_nextIp τ = (fc.2 + 1) &&& 65535 := by
  unfold fr_next fy_nextIp
  rw [(zQ_ip h).1, (zQ_ip h).2]
  exact ⟨rfl, rfl⟩
theorem sv_pe {L B bk : Int32} {α : Type} {Φ : α → xs_S → xs_S → Prop} {Ψ : xs_S → xs_S → Prop} {F : Unit → xs_S → xp_P α} {G : xs_S → xs_S} (h : zQ zs fc fr wt σ τ) (hD : zd_D (σ 14) τ 0 L) (hs : jr_R L 65535) (hn : ¬ L < 4) (hB : σ 13 1 = B) (k1 : ∀ σ' τ', zQ zs (fc.1, B) fr 1 σ' τ' → zf_F [2, 3, 4, 12] σ σ' → zf_F [18, 19, 20] τ τ' → zz_Z (F () σ') (G τ') Φ Ψ) (k2 : ∀ σ' τ', zW zs σ' τ' → zf_F [2, 3, 4, 12] σ σ' → zf_F [18, 19, 20] τ τ' → Ψ σ' (G τ')) : zz_Z (xp_b (fr_pushReturn bk σ) (fun _ s => xp_b (fr_enter 14 (s 13 1) s) F)) (G (fy_enter L B (fy_pushWord bk (fy_pushWord (τ 20 0) τ)))) Φ Ψ := by
  refine zz_o (g := fun x => G (fy_enter L B x)) (sv_pushReturn h) (fun _ σ1 τ1 q => ?_) (fun σ1 τ1 q => ?_)
  · have hB1 : σ1 13 1 = B := by rw [q.2.1 13 (by decide)]; exact hB
    rw [hB1]
    refine zz_o (g := G) (sv_enter (Or.inr rfl) q.1 (zd_F hD q.2.1 q.2.2.1 (by decide) (by decide)) hs hn) (fun _ σ2 τ2 q2 => ?_) (fun σ2 τ2 q2 => ?_)
    · exact k1 σ2 τ2 q2.1 (zf_t (zf_m q.2.1 (by decide)) q2.2.1) (zf_t (zf_m q.2.2.1 (by decide)) q2.2.2)
    · exact k2 σ2 τ2 q2.1 (zf_t (zf_m q.2.1 (by decide)) q2.2.1) (zf_t (zf_m q.2.2.1 (by decide)) q2.2.2)
  · show Ψ σ1 (G (fy_enter L B τ1))
    rw [ym_enter (zW_n q.1)]
    exact k2 σ1 τ1 q.1 (zf_m q.2.1 (by decide)) (zf_m q.2.2.1 (by decide))
theorem li_e {L : Int32} (h : zQ zs fc fr wt σ τ) (hD : zd_D (σ 14) τ 0 L) : fr_leadsInwards σ = if τ 24 0 = 1 then (if τ 20 21 ≤ τ 25 0 then 0 else 1) else 0 := by
  unfold fr_leadsInwards
  rw [hD.2.2.2.1, hD.2.2.2.2.1, zQ_ring h]
abbrev zl_D : List Nat := [2, 3, 4, 5, 12, 14, 15, 17]
abbrev zl_E : List Nat := [18, 19, 20, 22, 23, 24, 25, 26, 27, 28]
/-- the second half: a call without flags -/
theorem sv_thC {L B many bk : Int32} {α : Type} {Φ : α → xs_S → xs_S → Prop} {Ψ : xs_S → xs_S → Prop} {F : Unit → xs_S → xp_P α} {G : xs_S → xs_S} (h : zQ zs fc fr wt σ τ) (hD : zd_D (σ 14) τ 0 L) (hs : jr_R L 65535) (hn : ¬ L < 4) (hB : σ 13 1 = B) (hm : σ 13 5 = many) (hbk : bk = (fc.2 + 1) &&& 65535) (k1 : ∀ σ' τ', zQ zs (fc.1, B) fr 1 σ' τ' → zf_F zl_D σ σ' → zf_F zl_E τ τ' → zz_Z (F () σ') (G τ') Φ Ψ) (k2 : ∀ σ' τ', zW zs σ' τ' → zf_F zl_D σ σ' → zf_F zl_E τ τ' → Ψ σ' (G τ')) : zz_Z (if (fr_leadsInwards σ) = 0 then xp_b (fr_pushReturn (fr_next σ) σ) (fun _ s8 => xp_b (fr_enter 14 (s8 13 1) s8) F) else xp_b (fr_findInnerStack σ) (fun b11 s12 => xp_b (fr_changeStack b11 (s12 13 5) s12) (fun _ s14 => xp_b (fr_pushReturn (fr_next s14) s14) (fun _ s16 => xp_b (fr_enter 14 (s16 13 1) s16) F)))) (G (ft_z L B many 0 0 bk τ)) Φ Ψ := by
  unfold ft_z
  simp only [xl_e, if_pos rfl, if_true]
  rw [li_e h hD, (zQ_nx h).1, ← hbk]
  have plain : zz_Z (xp_b (fr_pushReturn bk σ) (fun _ s8 => xp_b (fr_enter 14 (s8 13 1) s8) F)) (G (fy_enter L B (fy_pushWord bk (fy_pushWord (τ 20 0) τ)))) Φ Ψ := sv_pe h hD hs hn hB (fun σ' τ' a b c => k1 σ' τ' a (zf_m b (by decide)) (zf_m c (by decide))) (fun σ' τ' a b c => k2 σ' τ' a (zf_m b (by decide)) (zf_m c (by decide)))
  by_cases c1 : τ 24 0 = 1
  · by_cases c2 : τ 20 21 ≤ τ 25 0
    · simp only [if_pos c1, if_pos c2]
      exact plain
    · simp only [if_pos c1, if_neg c2]
      rw [if_neg (by decide)]
      refine sv_inner (a1 := τ 25 0) (many := many) (mf := fun s12 => s12 13 5) (sel := L) (f := fun _ s14 => xp_b (fr_pushReturn (fr_next s14) s14) (fun _ s16 => xp_b (fr_enter 14 (s16 13 1) s16) F)) (g := fun x => G (fy_enter L B (fy_pushWord bk (fy_pushWord (τ 20 0) x)))) h hD hD.2.2.2.2.1 (fun s q => by rw [q]; exact hm) (fun σ1 τ1 h1 F1 D1 => ?_) (fun σ1 τ1 h1 F1 => ?_)
      · rw [(zQ_nx h1).1, ← hbk, ← zQ_cs h h1 (F1.1 4 (by decide))]
        exact sv_pe h1 D1 hs hn (by rw [F1.1 13 (by decide)]; exact hB) (fun σ' τ' a b c => k1 σ' τ' a (zf_t (zf_m F1.1 (by decide)) (zf_m b (by decide))) (zf_t (zf_m F1.2.1 (by decide)) (zf_m c (by decide)))) (fun σ' τ' a b c => k2 σ' τ' a (zf_t (zf_m F1.1 (by decide)) (zf_m b (by decide))) (zf_t (zf_m F1.2.1 (by decide)) (zf_m c (by decide))))
      · show Ψ σ1 (G (fy_enter L B (fy_pushWord bk (fy_pushWord (τ 20 0) τ1))))
        rw [ym_push (zW_n h1), ym_push (zW_n h1), ym_enter (zW_n h1)]
        exact k2 σ1 τ1 h1 (zf_m F1.1 (by decide)) (zf_m F1.2.1 (by decide))
  · simp only [if_neg c1]
    exact plain
end ZA
