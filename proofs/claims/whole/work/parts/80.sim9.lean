/-! The inner stack. -/
variable {zs : Int32}
section ZU
variable {fc : Int32 × Int32} {fr wt : Int32} {σ τ : xs_S}
theorem sv_inner {a1 many : Int32} {sel : Int32} {mf : xs_S → Int32} {α : Type} {Φ : α → xs_S → xs_S → Prop} {Ψ : xs_S → xs_S → Prop} {f : Unit → xs_S → xp_P α} {g : xs_S → xs_S} (h : zQ zs fc fr wt σ τ) (hD0 : zd_D (σ 14) τ 0 sel) (ha : σ 14 4 = a1) (hm : ∀ s : xs_S, s 13 = σ 13 → mf s = many) (k1 : ∀ σ1 τ1, zQ zs fc fr wt σ1 τ1 → zF [2, 3, 5, 12, 15, 17] [18, 19, 20, 22, 23, 24, 25, 26, 27, 28] σ σ1 τ τ1 → zd_D (σ1 14) τ1 0 sel → zz_Z (f () σ1) (g τ1) Φ Ψ) (k2 : ∀ σ1 τ1, zW zs σ1 τ1 → zF [2, 3, 5, 12, 15, 17] [18, 19, 20, 22, 23, 24, 25, 26, 27, 28] σ σ1 τ τ1 → Ψ σ1 (g τ1)) : zz_Z (xp_b (fr_findInnerStack σ) (fun sp s => xp_b (fr_changeStack sp (mf s) s) f)) (g (fy_inner a1 many τ)) Φ Ψ := by
  have hl : jr_R a1 3 := by rw [← ha]; exact hD0.2.2.2.2.2.2.2.2.2.1
  have go : ∀ (C : Int32 → xs_S → xp_P Unit) (K : Int32 → Int32 → xs_S → xs_S), (∀ (sp ss : Int32) (σ1 τ1 : xs_S), σ1 13 = σ 13 → zQ zs fc fr wt σ1 τ1 → σ1 14 4 = a1 → zd_D (σ1 15) τ1 1 ss → jr_R ss 65535 → ¬ ss < 4 → σ1 15 3 = 4 → zz_Z (C sp σ1) (K sp ss τ1) (fun _ σ' τ' => zQ zs fc fr wt σ' τ' ∧ zF [2, 3, 5, 12, 17] [18, 19, 20, 28] σ1 σ' τ1 τ') (fun σ' τ' => zW zs σ' τ' ∧ zF [2, 3, 5, 12, 17] [18, 19, 20, 28] σ1 σ' τ1 τ')) → zz_Z (xp_b (fr_findInnerStack σ) (fun sp s => xp_b (C sp s) f)) (g (fi_p a1 K τ)) Φ Ψ := by
    intro C K hC
    have e : xp_b (fr_findInnerStack σ) (fun sp s => xp_b (C sp s) f) = xp_b (xp_b (fr_findInnerStack σ) (fun sp s => C sp s)) f := by rw [xp_bb]
    rw [e]
    refine zz_o (g := g) (Φ1 := fun _ σ1 τ1 => zQ zs fc fr wt σ1 τ1 ∧ zF [2, 3, 5, 12, 15, 17] [18, 19, 20, 22, 23, 24, 25, 26, 27, 28] σ σ1 τ τ1 ∧ zd_D (σ1 14) τ1 0 sel) (Ψ1 := fun σ1 τ1 => zW zs σ1 τ1 ∧ zF [2, 3, 5, 12, 15, 17] [18, 19, 20, 22, 23, 24, 25, 26, 27, 28] σ σ1 τ τ1) (sv_findInner h ha (fun sp ss σ1 τ1 h1 F1 i1 D1 s1 n1 d1 => ?_) (fun σ1 τ1 h1 F1 => ?_)) (fun _ σ2 τ2 q => k1 σ2 τ2 q.1 q.2.1 q.2.2) (fun σ2 τ2 q => k2 σ2 τ2 q.1 q.2)
    · have hD1 : zd_D (σ1 14) τ1 0 sel := by
        unfold zd_D
        rw [F1.1 14 (by decide), i1 22 (by decide) 0 (by decide), i1 23 (by decide) 0 (by decide), i1 24 (by decide) 0 (by decide), i1 25 (by decide) 0 (by decide), i1 26 (by decide) 0 (by decide), i1 27 (by decide) 0 (by decide)]
        exact hD0
      refine zz_m (hC sp ss σ1 τ1 (F1.1 13 (by decide)) h1 (by rw [F1.1 14 (by decide)]; exact ha) D1 s1 n1 d1) (fun _ σ2 q => ?_) (fun σ2 q => ?_)
      · exact ⟨q.1, zF_t (zF_m F1 (by decide) (by decide)) (zF_m q.2 (by decide) (by decide)), zd_F hD1 q.2.1 q.2.2.1 (by decide) (by decide)⟩
      · exact ⟨q.1, zF_t (zF_m F1 (by decide) (by decide)) (zF_m q.2 (by decide) (by decide))⟩
    · exact ⟨h1, zF_m F1 (by decide) (by decide)⟩
  unfold fy_inner
  by_cases c0 : many = 0
  · simp only [if_pos c0]
    rw [fe_0]
    refine go (fun sp s => fr_changeStack sp (mf s) s) _ (fun sp ss σ1 τ1 z a b c d e f => ?_)
    show zz_Z (fr_changeStack sp (mf σ1) σ1) _ _ _
    rw [hm σ1 z]
    unfold fr_changeStack
    simp only [if_pos c0]
    exact sv_ch0 a b hl c d e f
  by_cases c1 : many = 1
  · simp only [if_neg c0, if_pos c1]
    rw [fe_1]
    refine go (fun sp s => fr_changeStack sp (mf s) s) _ (fun sp ss σ1 τ1 z a b c d e f => ?_)
    show zz_Z (fr_changeStack sp (mf σ1) σ1) _ _ _
    rw [hm σ1 z]
    unfold fr_changeStack
    simp only [if_neg c0, if_pos c1]
    exact sv_ch1 a b hl c d e f
  by_cases c2 : many = 2
  · simp only [if_neg c0, if_neg c1, if_pos c2]
    rw [fe_2]
    refine go (fun sp s => fr_changeStack sp (mf s) s) _ (fun sp ss σ1 τ1 z a b c d e f => ?_)
    show zz_Z (fr_changeStack sp (mf σ1) σ1) _ _ _
    rw [hm σ1 z]
    unfold fr_changeStack
    simp only [if_neg c0, if_neg c1, if_pos c2]
    exact sv_ch2 a b hl c d e f
  by_cases c3 : many = 3
  · simp only [if_neg c0, if_neg c1, if_neg c2, if_pos c3]
    rw [fe_3]
    refine go (fun sp s => fr_changeStack sp (mf s) s) _ (fun sp ss σ1 τ1 z a b c d e f => ?_)
    show zz_Z (fr_changeStack sp (mf σ1) σ1) _ _ _
    rw [hm σ1 z]
    unfold fr_changeStack
    simp only [if_neg c0, if_neg c1, if_neg c2, if_pos c3]
    exact sv_ch3 a b hl c d e f
  by_cases c4 : many = 4
  · simp only [if_neg c0, if_neg c1, if_neg c2, if_neg c3, if_pos c4]
    rw [fe_4]
    refine go (fun sp s => fr_changeStack sp (mf s) s) _ (fun sp ss σ1 τ1 z a b c d e f => ?_)
    show zz_Z (fr_changeStack sp (mf σ1) σ1) _ _ _
    rw [hm σ1 z]
    unfold fr_changeStack
    simp only [if_neg c0, if_neg c1, if_neg c2, if_neg c3, if_pos c4]
    exact sv_ch4 a b hl c d e f
  by_cases c5 : many = 5
  · simp only [if_neg c0, if_neg c1, if_neg c2, if_neg c3, if_neg c4, if_pos c5]
    rw [fe_5]
    refine go (fun sp s => fr_changeStack sp (mf s) s) _ (fun sp ss σ1 τ1 z a b c d e f => ?_)
    show zz_Z (fr_changeStack sp (mf σ1) σ1) _ _ _
    rw [hm σ1 z]
    unfold fr_changeStack
    simp only [if_neg c0, if_neg c1, if_neg c2, if_neg c3, if_neg c4, if_pos c5]
    exact sv_ch5 a b hl c d e f
  by_cases c6 : many = 6
  · simp only [if_neg c0, if_neg c1, if_neg c2, if_neg c3, if_neg c4, if_neg c5, if_pos c6]
    rw [fe_6]
    refine go (fun sp s => fr_changeStack sp (mf s) s) _ (fun sp ss σ1 τ1 z a b c d e f => ?_)
    show zz_Z (fr_changeStack sp (mf σ1) σ1) _ _ _
    rw [hm σ1 z]
    unfold fr_changeStack
    simp only [if_neg c0, if_neg c1, if_neg c2, if_neg c3, if_neg c4, if_neg c5, if_pos c6]
    exact sv_ch6 a b hl c d e f
  simp only [if_neg c0, if_neg c1, if_neg c2, if_neg c3, if_neg c4, if_neg c5, if_neg c6]
  rw [fe_7]
  refine go (fun sp s => fr_changeStack sp (mf s) s) _ (fun sp ss σ1 τ1 z a b c d e f => ?_)
  show zz_Z (fr_changeStack sp (mf σ1) σ1) _ _ _
  rw [hm σ1 z]
  unfold fr_changeStack
  simp only [if_neg c0, if_neg c1, if_neg c2, if_neg c3, if_neg c4, if_neg c5, if_neg c6]
  exact sv_ch7 a b hl c d e f
end ZU
