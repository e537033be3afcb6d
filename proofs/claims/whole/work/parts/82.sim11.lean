/-! Faults and traps are delivered. -/
variable {zs : Int32}
theorem xl_b {α β γ : Type} {x : γ} {g : γ → xp_P α} {f : α → xs_S → xp_P β} : xp_b (xl_l x g) f = xl_l x (fun y => xp_b (g y) f) := rfl
theorem xl_xl {α β γ : Type} {x : α} {f : α → β} {g : β → γ} : xl_l (xl_l x f) g = xl_l x (fun y => xl_l (f y) g) := rfl
section ZD
variable {fc : Int32 × Int32} {fr wt : Int32} {σ τ : xs_S}
theorem sv_fpe {L B bk tr : Int32} {α : Type} {Φ : α → xs_S → xs_S → Prop} {Ψ : xs_S → xs_S → Prop} {F : Unit → xs_S → xp_P α} {G : xs_S → xs_S} {v6 : Int32} (h : zQ zs fc fr wt σ τ) (hff : fc.1 = fr) (h6 : τ 20 0 = v6) (hD : zd_D (σ 14) τ 0 L) (hs : jr_R L 65535) (hn : ¬ L < 4) (hB : σ 13 1 = B) (hbk : bk = if tr = 0 then fc.2 else (fc.2 + 1) &&& 65535) (k1 : ∀ σ' τ', zQ zs (fc.1, B) fr 1 σ' τ' → zf_F [2, 3, 4, 12] σ σ' → zf_F [18, 19, 20] τ τ' → zz_Z (F () σ') (G τ') Φ Ψ) (k2 : ∀ σ' τ', zW zs σ' τ' → zf_F [2, 3, 4, 12] σ σ' → zf_F [18, 19, 20] τ τ' → Ψ σ' (G τ')) : zz_Z (xp_b (fr_pushWord (σ 3 5) σ) (fun _ s7 => xp_b (fr_pushReturn (if tr = 0 then (s7 3 4) else (fr_next s7)) s7) (fun _ s9 => xp_b (fr_enter 14 (s9 13 1) s9) F))) (G (fy_enter L B (fy_pushWord bk (fy_pushWord v6 (fy_pushWord (τ 20 20) τ))))) Φ Ψ := by
  have e1 : σ 3 5 = τ 20 20 := by rw [h.2.2.1.1, h.2.2.1.2.2]; exact hff
  rw [e1]
  refine zz_o (g := fun x => G (fy_enter L B (fy_pushWord bk (fy_pushWord v6 x)))) (sv_pushWord h) (fun _ σ1 τ1 q => ?_) (fun σ1 τ1 q => ?_)
  · have e2 : (if tr = 0 then σ1 3 4 else fr_next σ1) = bk := by rw [(zQ_ip q.1).1, (zQ_nx q.1).1, hbk]
    have e3 : τ1 20 0 = v6 := by rw [← h6]; exact zQ_cs h q.1 (q.2.1 4 (by decide))
    rw [e2, ← e3]
    exact sv_pe q.1 (zd_F hD q.2.1 q.2.2.1 (by decide) (by decide)) hs hn (by rw [q.2.1 13 (by decide)]; exact hB) (fun σ' τ' a b c => k1 σ' τ' a (zf_t (zf_m q.2.1 (by decide)) b) (zf_t (zf_m q.2.2.1 (by decide)) c)) (fun σ' τ' a b c => k2 σ' τ' a (zf_t (zf_m q.2.1 (by decide)) b) (zf_t (zf_m q.2.2.1 (by decide)) c))
  · show Ψ σ1 (G (fy_enter L B (fy_pushWord bk (fy_pushWord v6 τ1))))
    rw [ym_push (zW_n q.1), ym_push (zW_n q.1), ym_enter (zW_n q.1)]
    exact k2 σ1 τ1 q.1 (zf_m q.2.1 (by decide)) (zf_m q.2.2.1 (by decide))
theorem sv_thD {L B bk tr : Int32} {α : Type} {Φ : α → xs_S → xs_S → Prop} {Ψ : xs_S → xs_S → Prop} {F : Unit → xs_S → xp_P α} {G : xs_S → xs_S} (h : zQ zs fc fr wt σ τ) (hff : fc.1 = fr) (hD : zd_D (σ 14) τ 0 L) (hs : jr_R L 65535) (hn : ¬ L < 4) (hB : σ 13 1 = B) (hbk : bk = if tr = 0 then fc.2 else (fc.2 + 1) &&& 65535) (k1 : ∀ σ' τ', zQ zs (fc.1, B) fr 1 σ' τ' → zf_F zl_D σ σ' → zf_F zl_E τ τ' → zz_Z (F () σ') (G τ') Φ Ψ) (k2 : ∀ σ' τ', zW zs σ' τ' → zf_F zl_D σ σ' → zf_F zl_E τ τ' → Ψ σ' (G τ')) : zz_Z (if (fr_leadsInwards σ) = 0 then xp_b (fr_pushWord (σ 3 5) σ) (fun _ s7 => xp_b (fr_pushReturn (if tr = 0 then (s7 3 4) else (fr_next s7)) s7) (fun _ s9 => xp_b (fr_enter 14 (s9 13 1) s9) F)) else xp_b (fr_findInnerStack σ) (fun b17 s18 => xp_b (fr_changeStack b17 (0 : Int32) s18) (fun _ s20 => xp_b (fr_pushWord (s20 3 5) s20) (fun _ s22 => xp_b (fr_pushReturn (if tr = 0 then (s22 3 4) else (fr_next s22)) s22) (fun _ s24 => xp_b (fr_enter 14 (s24 13 1) s24) F))))) (G (ft_z L B 0 0 1 bk τ)) Φ Ψ := by
  unfold ft_z
  simp only [xl_e, if_pos rfl, if_true, if_neg (show ¬ (1 : Int32) = 0 by decide)]
  rw [li_e h hD]
  have plain : zz_Z (xp_b (fr_pushWord (σ 3 5) σ) (fun _ s7 => xp_b (fr_pushReturn (if tr = 0 then (s7 3 4) else (fr_next s7)) s7) (fun _ s9 => xp_b (fr_enter 14 (s9 13 1) s9) F))) (G (fy_enter L B (fy_pushWord bk (fy_pushWord (τ 20 0) (fy_pushWord (τ 20 20) τ))))) Φ Ψ := sv_fpe h hff rfl hD hs hn hB hbk (fun σ' τ' a b c => k1 σ' τ' a (zf_m b (by decide)) (zf_m c (by decide))) (fun σ' τ' a b c => k2 σ' τ' a (zf_m b (by decide)) (zf_m c (by decide)))
  by_cases c1 : τ 24 0 = 1
  · by_cases c2 : τ 20 21 ≤ τ 25 0
    · simp only [if_pos c1, if_pos c2]
      exact plain
    · simp only [if_pos c1, if_neg c2]
      rw [if_neg (by decide)]
      refine sv_inner (a1 := τ 25 0) (many := 0) (mf := fun _ => 0) (sel := L) (f := fun _ s20 => xp_b (fr_pushWord (s20 3 5) s20) (fun _ s22 => xp_b (fr_pushReturn (if tr = 0 then (s22 3 4) else (fr_next s22)) s22) (fun _ s24 => xp_b (fr_enter 14 (s24 13 1) s24) F))) (g := fun x => G (fy_enter L B (fy_pushWord bk (fy_pushWord (τ 20 0) (fy_pushWord (x 20 20) x))))) h hD hD.2.2.2.2.1 (fun s q => rfl) (fun σ1 τ1 h1 F1 D1 => ?_) (fun σ1 τ1 h1 F1 => ?_)
      · exact sv_fpe h1 hff (zQ_cs h h1 (F1.1 4 (by decide))) D1 hs hn (by rw [F1.1 13 (by decide)]; exact hB) hbk (fun σ' τ' a b c => k1 σ' τ' a (zf_t (zf_m F1.1 (by decide)) (zf_m b (by decide))) (zf_t (zf_m F1.2.1 (by decide)) (zf_m c (by decide)))) (fun σ' τ' a b c => k2 σ' τ' a (zf_t (zf_m F1.1 (by decide)) (zf_m b (by decide))) (zf_t (zf_m F1.2.1 (by decide)) (zf_m c (by decide))))
      · show Ψ σ1 (G (fy_enter L B (fy_pushWord bk (fy_pushWord (τ 20 0) (fy_pushWord (τ1 20 20) τ1)))))
        rw [ym_push (zW_n h1), ym_push (zW_n h1), ym_push (zW_n h1), ym_enter (zW_n h1)]
        exact k2 σ1 τ1 h1 (zf_m F1.1 (by decide)) (zf_m F1.2.1 (by decide))
  · simp only [if_neg c1]
    exact plain
theorem sv_gate {vec tr : Int32} {n : Nat} {α : Type} {Φ : α → xs_S → xs_S → Prop} {Ψ : xs_S → xs_S → Prop} {f : Unit → xs_S → xp_P α} {K : Int32 → xs_S → xs_S} (h : zQ zs fc fr wt σ τ) (hn : n < 256) (hv : vec = nI n) (k1 : ∀ σ1 τ1, zQ zs fc fr wt σ1 τ1 → zF [2, 12, 13] zl_R σ σ1 τ τ1 → zd_D (σ1 13) τ1 0 0 → zz_Z (f () σ1) (K (τ1 24 0) τ1) Φ Ψ) (k2 : ∀ σ1 τ1, zW zs σ1 τ1 → zF [2, 12, 13] zl_R σ σ1 τ τ1 → Ψ σ1 τ1) : zz_Z (xp_b (fr_readVectorGate vec tr σ) f) (xl_l ((((4 : Int32) * vec) + (2 : Int32))) (fun v1 => xl_l ((if vec < (16 : Int32) then (fy_readDescriptor ((τ 18 4) + ((8 : Int32) * vec)) (0 : Int32) τ) else (fy_raise (13 : Int32) v1 τ))) (fun s2 => (if (fy_isRaised s2) = 0 then xl_l ((s2 24 0)) (fun v4 => xl_l ((if v4 = (8 : Int32) then (if tr = 0 then (if (s2 26 0) = 0 then (fy_raise (11 : Int32) v1 s2) else s2) else (if (s2 20 21) ≤ (s2 25 0) then (if (s2 26 0) = 0 then (fy_raise (11 : Int32) v1 s2) else s2) else (fy_raise (13 : Int32) v1 s2))) else (if v4 = (9 : Int32) then (if tr = 0 then (if (s2 26 0) = 0 then (fy_raise (11 : Int32) v1 s2) else s2) else (if (s2 20 21) ≤ (s2 25 0) then (if (s2 26 0) = 0 then (fy_raise (11 : Int32) v1 s2) else s2) else (fy_raise (13 : Int32) v1 s2))) else (fy_raise (13 : Int32) v1 s2)))) (fun s5 => (if (fy_isRaised s5) = 0 then K v4 s5 else s5))) else s2)))) Φ Ψ := by
  unfold fr_readVectorGate
  simp only [xl_b, xp_bb]
  refine zz_lc (fun v1 e1 => ?_)
  refine zz_lr (fun w1 f1 => ?_)
  obtain rfl : v1 = w1 := e1.trans f1.symm
  have hc : v1 = nI (4 * n + 2) := by
    rw [e1, hv, show (4 : Int32) = nI 4 by decide, show (2 : Int32) = nI 2 by decide, pk_mul, nI_add]
  have fail : ∀ (σ1 τ1 : xs_S) (v : Nat) (v' : Int32), zQ zs fc fr wt σ1 τ1 → zF [2, 12, 13] zl_R σ σ1 τ τ1 → 10 ≤ v → v ≤ 14 → v' = nI v → zW zs (xu_u (xu_u σ1 2 0 v') 2 1 v1) (fy_raise v' v1 τ1) ∧ zF [2, 12, 13] zl_R σ (xu_u (xu_u σ1 2 0 v') 2 1 v1) τ (fy_raise v' v1 τ1) := by
    intro σ1 τ1 v v' a b c d e
    obtain ⟨q1, q2⟩ := zQ_r a c d (show 4 * n + 2 < 65536 by omega) e hc
    exact ⟨q1, zF_t b (zF_m q2 (by decide) (by decide))⟩
  by_cases c1 : vec < 16
  · rw [if_pos c1, if_pos c1]
    refine zz_p rfl ?_
    rw [h.1.1.2.2.2.1]
    refine zz_b (sv_eight h.1) (fun V σ1 τ1 q => ?_) (fun σ1 τ1 q => ?_)
    case refine_2 =>
      have hW := zW_F h q.1 q.2 (by decide) (by decide)
      rw [if_neg (zW_n hW)]
      exact k2 _ _ hW (zF_m q.2 (by decide) (by decide))
    obtain ⟨l1, F1, hE, _⟩ := q
    have h1 := zQ_F h l1 F1 (by decide) (by decide) (by decide)
    rw [if_pos (zQ_n h1)]
    refine zz_lc (fun s6 e6 => ?_)
    have F6 : zF [2, 12, 13] zl_R σ s6 τ τ1 := by
      rw [e6]
      exact zF_t (zF_m F1 (by decide) (by decide)) ⟨fd_F zf_r (by decide), zf_r, zk_r⟩
    have h6 : zQ zs fc fr wt s6 τ1 := by
      rw [e6]
      exact h1
    have hD : zd_D (s6 13) τ1 0 0 := by
      rw [e6]
      exact hE 13 0 σ1
    refine zz_lr (fun v4 e4 => ?_)
    have d3 : s6 13 3 = v4 := hD.2.2.2.1.trans e4.symm
    rw [d3, hD.2.2.2.2.1, zQ_ring h6]
    have pres : zz_Z (xp_b (fx_refuse (if s6 13 6 = 0 then (1 : Int32) else 0) 11 v1 s6) (fun _ s11 => xp_b (some (), s11) f)) (xl_l (if τ1 26 0 = 0 then fy_raise 11 v1 τ1 else τ1) (fun s5 => if fy_isRaised s5 = 0 then K v4 s5 else s5)) Φ Ψ := by
      rw [hD.2.2.2.2.2.2.1]
      by_cases c4 : τ1 26 0 = 0
      · rw [if_pos c4, if_pos c4]
        refine zz_n (by decide) ?_
        obtain ⟨q1, q2⟩ := fail s6 τ1 11 11 h6 F6 (by decide) (by decide) (by decide)
        rw [xl_e, if_neg (zW_n q1)]
        exact k2 _ _ q1 q2
      · rw [if_neg c4, if_neg c4]
        refine zz_p rfl ?_
        rw [xl_e, if_pos (zQ_n h6), e4]
        exact k1 s6 τ1 h6 F6 hD
    have bad : ∀ x : Int32, ¬ x = 0 → zz_Z (xp_b (fx_refuse x 13 v1 s6) (fun _ s9 => xp_b (fx_refuse (if s9 13 6 = 0 then (1 : Int32) else 0) 11 v1 s9) (fun _ s11 => xp_b (some (), s11) f))) (xl_l (fy_raise 13 v1 τ1) (fun s5 => if fy_isRaised s5 = 0 then K v4 s5 else s5)) Φ Ψ := by
      intro x hx
      refine zz_n hx ?_
      obtain ⟨q1, q2⟩ := fail s6 τ1 13 13 h6 F6 (by decide) (by decide) (by decide)
      rw [xl_e, if_neg (zW_n q1)]
      exact k2 _ _ q1 q2
    refine zz_lc (fun v7 e7 => ?_)
    by_cases k8 : v4 = 8
    · rw [if_pos k8] at e7
      rw [if_pos (α := xs_S) k8, e7]
      by_cases ct : tr = 0
      · rw [if_pos (α := xs_S) ct]
        refine zz_p (by simp [ct]) pres
      · rw [if_neg (α := xs_S) ct]
        by_cases cr : τ1 20 21 ≤ τ1 25 0
        · rw [if_pos (α := xs_S) cr]
          refine zz_p (by simp [ct, cr]) pres
        · rw [if_neg (α := xs_S) cr]
          exact bad _ (by simp [ct, cr])
    · rw [if_neg k8] at e7
      rw [if_neg (α := xs_S) k8]
      by_cases k9 : v4 = 9
      · rw [if_pos k9] at e7
        rw [if_pos (α := xs_S) k9, e7]
        by_cases ct : tr = 0
        · rw [if_pos (α := xs_S) ct]
          refine zz_p (by simp [ct]) pres
        · rw [if_neg (α := xs_S) ct]
          by_cases cr : τ1 20 21 ≤ τ1 25 0
          · rw [if_pos (α := xs_S) cr]
            refine zz_p (by simp [ct, cr]) pres
          · rw [if_neg (α := xs_S) cr]
            exact bad _ (by simp [ct, cr])
      · rw [if_neg k9] at e7
        rw [if_neg (α := xs_S) k9, e7]
        exact bad _ (by simp)
  · rw [if_neg c1, if_neg c1]
    refine zz_n (by decide) ?_
    obtain ⟨q1, q2⟩ := fail σ τ 13 13 h zF_r (by decide) (by decide) (by decide)
    rw [xl_e, if_neg (zW_n q1)]
    exact k2 _ _ q1 q2
theorem fl_4 : ∀ n, n < 4 → nI n &&& (-4) = nI n &&& 0 ∧ nI n &&& (-3) = nI n &&& 1 ∧ (nI n &&& 0).toInt ≤ 3 ∧ 0 ≤ (nI n &&& 0).toInt ∧ (nI n &&& 1).toInt ≤ 3 ∧ 0 ≤ (nI n &&& 1).toInt := by decide +kernel
theorem fl_e {f k : Int32} (hf : jr_R f 3) : f &&& (if k = 8 then (-4 : Int32) else (-3 : Int32)) = f &&& (if k = 8 then (0 : Int32) else 1) ∧ jr_R (f &&& (if k = 8 then (0 : Int32) else 1)) 3 := by
  obtain ⟨n, hn, rfl⟩ := jr_nat (m := 3) (by decide) hf
  obtain ⟨a, b, c, d, e, g⟩ := fl_4 n (by omega)
  by_cases q : k = 8
  · rw [if_pos q, if_pos q]
    exact ⟨a, d, c⟩
  · rw [if_neg q, if_neg q]
    exact ⟨b, g, e⟩
theorem zQ_fl {f' : Int32} {x : Int32 × Int32} (h : zQ zs x fr wt σ τ) : zQ zs (f', x.2) f' wt (xu_u σ 3 5 f') (xu_u τ 20 20 f') := by
  obtain ⟨h1, ⟨a0, a1, a2, a3, a4⟩, h3, h4⟩ := h
  exact ⟨h1, ⟨a0, a1, a2, a3, a4⟩, ⟨rfl, h3.2.1, rfl⟩, h4⟩
/-- after an instruction that went -/
def zG (zs : Int32) (σ τ : xs_S) : Prop := ∃ f ip : Int32, jr_R f 3 ∧ zQ zs (f, ip) f 1 σ τ
theorem sv_deliver {vec tr cd f ip : Int32} {n : Nat} (h : zQ zs (f, ip) f wt σ τ) (hf : jr_R f 3) (hn : n < 256) (hv : vec = nI n) (hc : tr = 0 → ¬ (if vec = (8 : Int32) then (1 : Int32) else (if vec < (10 : Int32) then (0 : Int32) else (if (14 : Int32) < vec then (0 : Int32) else (1 : Int32)))) = 0) : zz_Z (fr_deliver vec tr cd σ) (fy_deliver vec tr cd τ) (fun _ σ' τ' => zG zs σ' τ' ∧ zX σ σ' τ τ') (fun σ' τ' => zW zs σ' τ' ∧ zX σ σ' τ τ') := by
  unfold fr_deliver fy_deliver
  refine sv_gate h hn hv (fun σ1 τ1 h1 F1 hD1 => ?_) (fun σ1 τ1 h1 F1 => ⟨h1, zX_F F1 (by decide) (by decide)⟩)
  rw [ft_e, xl_xl]
  have hb : (if tr = 0 then τ1 20 19 else fy_nextIp τ1) = if tr = 0 then ip else (ip + 1) &&& 65535 := by
    rw [(zQ_ip h1).2, (zQ_nx h1).2]
  rw [hb]
  have X1 : zX σ σ1 τ τ1 := zX_F F1 (by decide) (by decide)
  refine zz_b (sv_findTarget h1 hD1.2.2.1 (hD1.2.2.1 ▸ hD1.2.2.2.2.2.2.2.1) (by decide)) (fun _ σ2 τ2 q => ?_) (fun σ2 τ2 q => ?_)
  case refine_2 =>
    show zW zs σ2 (xl_l _ _) ∧ zX σ σ2 τ (xl_l _ _)
    have hw := zW_n q.1
    have e : ∀ x : Int32, (if tr = 0 then (if x = 0 then τ2 else fy_pushWord cd τ2) else τ2) = τ2 := by
      intro x
      rw [ym_push hw]
      simp
    simp only [if_neg hw, xl_e, e]
    exact ⟨q.1, zX_t X1 (zX_F q.2 (by decide) (by decide))⟩
  obtain ⟨h2, F2, D2, n2⟩ := q
  have X2 : zX σ σ2 τ τ2 := zX_t X1 (zX_F F2 (by decide) (by decide))
  have hL : jr_R (τ1 23 0) 65535 := hD1.2.2.1 ▸ hD1.2.2.2.2.2.2.2.1
  simp only [if_pos (zQ_n h2), xl_e]
  refine sv_thD (fc := (f, ip)) (tr := tr) (G := fun s7 => if fy_isRaised (if tr = 0 then if (if vec = (8 : Int32) then (1 : Int32) else (if vec < (10 : Int32) then (0 : Int32) else (if (14 : Int32) < vec then (0 : Int32) else (1 : Int32)))) = 0 then s7 else fy_pushWord cd s7 else s7) = 0 then xu_u (if tr = 0 then if (if vec = (8 : Int32) then (1 : Int32) else (if vec < (10 : Int32) then (0 : Int32) else (if (14 : Int32) < vec then (0 : Int32) else (1 : Int32)))) = 0 then s7 else fy_pushWord cd s7 else s7) 20 20 ((if tr = 0 then if (if vec = (8 : Int32) then (1 : Int32) else (if vec < (10 : Int32) then (0 : Int32) else (if (14 : Int32) < vec then (0 : Int32) else (1 : Int32)))) = 0 then s7 else fy_pushWord cd s7 else s7) 20 20 &&& (if τ1 24 0 = (8 : Int32) then (0 : Int32) else (1 : Int32))) else (if tr = 0 then if (if vec = (8 : Int32) then (1 : Int32) else (if vec < (10 : Int32) then (0 : Int32) else (if (14 : Int32) < vec then (0 : Int32) else (1 : Int32)))) = 0 then s7 else fy_pushWord cd s7 else s7)) h2 rfl D2 hL n2 (by rw [F2.1 13 (by decide)]; exact hD1.2.1) rfl (fun σ3 τ3 h3 a b => ?_) (fun σ3 τ3 h3 a b => ?_)
  · have X3 : zX σ σ3 τ τ3 := zX_t X2 ⟨zf_m a (by decide), zf_m b (by decide)⟩
    have k3 : σ3 13 = σ1 13 := (a 13 (by decide)).trans (F2.1 13 (by decide))
    have fin : ∀ σ4 τ4, zQ zs (f, τ1 22 0) f 1 σ4 τ4 → zX σ σ4 τ τ4 → σ4 13 = σ1 13 → zz_Z (xl_l ((xu_u σ4 3 5 ((σ4 3 5) &&& (if (σ4 13 3) = (8 : Int32) then (-4 : Int32) else (-3 : Int32))))) (fun s16 => (some (), s16))) (if fy_isRaised τ4 = 0 then xu_u τ4 20 20 (τ4 20 20 &&& (if τ1 24 0 = (8 : Int32) then (0 : Int32) else (1 : Int32))) else τ4) (fun (_ : Unit) σ' τ' => zG zs σ' τ' ∧ zX σ σ' τ τ') (fun σ' τ' => zW zs σ' τ' ∧ zX σ σ' τ τ') := by
      intro σ4 τ4 h4 X4 k4
      rw [if_pos (zQ_n h4), k4, hD1.2.2.2.1, h4.2.2.1.1, h4.2.2.1.2.2]
      obtain ⟨q1, q2⟩ := fl_e (k := τ1 24 0) hf
      refine zz_lc (fun s16 e16 => ?_)
      rw [e16, q1]
      exact zz_s ⟨⟨_, _, q2, zQ_fl h4⟩, zX_t X4 ⟨zf_u zf_r (by decide), zf_u zf_r (by decide)⟩⟩
    by_cases ct : tr = 0
    · simp only [if_pos ct, if_neg (hc ct)]
      refine zz_o (g := fun x => if fy_isRaised x = 0 then xu_u x 20 20 (x 20 20 &&& (if τ1 24 0 = (8 : Int32) then (0 : Int32) else (1 : Int32))) else x) (sv_pushWord h3) (fun _ σ4 τ4 q => ?_) (fun σ4 τ4 q => ?_)
      · exact fin σ4 τ4 q.1 (zX_t X3 (zX_F q.2 (by decide) (by decide))) ((q.2.1 13 (by decide)).trans k3)
      · show zW zs σ4 (if _ then _ else _) ∧ zX σ σ4 τ (if _ then _ else _)
        rw [if_neg (zW_n q.1)]
        exact ⟨q.1, zX_t X3 (zX_F q.2 (by decide) (by decide))⟩
    · simp only [if_neg ct]
      exact fin σ3 τ3 h3 X3 k3
  · have hw := zW_n h3
    have e : ∀ x : Int32, (if tr = 0 then (if x = 0 then τ3 else fy_pushWord cd τ3) else τ3) = τ3 := by
      intro x
      rw [ym_push hw]
      simp
    simp only [e, if_neg hw]
    exact ⟨h3, zX_t X2 ⟨zf_m a (by decide), zf_m b (by decide)⟩⟩
end ZD
