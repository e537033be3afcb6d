/-! The inner stack is found and taken. -/
variable {zs : Int32}
theorem rf_0 {x v : Int32} {σ σ0 : xs_S} (h : jr_R x 65535) : fx_refuse (fr_isNull x σ) v (fr_codeOf x σ0) σ = fx_refuse (fr_isNull x σ) v 0 σ := by
  unfold fx_refuse
  by_cases e : fr_isNull x σ = 0
  · rw [if_pos e, if_pos e]
  · have h0 : fr_codeOf x σ0 = 0 := by
      rw [(sl_code (τ := σ) h).1]
      rw [sl_null (τ := σ) h] at e
      have h4 : x < 4 := Classical.not_not.mp (fun q => e (sl_n0.mpr q))
      obtain ⟨n, hn, rfl⟩ := sl_n h
      rw [show (4 : Int32) = nI 4 by decide, nI_ltI (by omega) (by decide)] at h4
      unfold fy_codeOf
      rw [show (65532 : Int32) = nI 65532 by decide, bt_and, nd_4 hn, show 4 * (n / 4) = 0 by omega]
      decide
    rw [if_neg e, if_neg e, h0]
def fi_p (a1 : Int32) (K : Int32 → Int32 → xs_S → xs_S) (σ : xs_S) : xs_S := xl_l (fy_readWord (((σ 20 23) + ((4 : Int32) * a1)) + (2 : Int32)) (1 : Int32) σ) (fun r1 => (if (fy_isRaised r1.2) = 0 then xl_l (fy_readWord (((r1.2 20 23) + ((4 : Int32) * a1)) + (4 : Int32)) (1 : Int32) r1.2) (fun r3 => (if (fy_isRaised r3.2) = 0 then xl_l ((if (fy_isNull r3.1 r3.2) = 0 then (fy_lookUp r3.1 (1 : Int32) r3.2) else (fy_raise (10 : Int32) (0 : Int32) r3.2))) (fun s5 => (if (fy_isRaised s5) = 0 then xl_l ((if (s5 24 1) = (4 : Int32) then (if (s5 25 1) = a1 then (if (r3.1 &&& (3 : Int32)) = a1 then (if (s5 26 1) = 0 then (fy_raise (12 : Int32) (fy_codeOf r3.1 s5) s5) else s5) else (fy_raise (10 : Int32) (fy_codeOf r3.1 s5) s5)) else (fy_raise (10 : Int32) (fy_codeOf r3.1 s5) s5)) else (fy_raise (10 : Int32) (fy_codeOf r3.1 s5) s5))) (fun s7 => (if (fy_isRaised s7) = 0 then K r1.1 r3.1 s7 else s7)) else s5)) else r3.2)) else r1.2))
def fk_0 (a1 sp ss : Int32) (s7 : xs_S) : xs_S := xl_l ((s7 20 1)) (fun v9 => xl_l ((s7 20 18)) (fun v10 => xl_l ((xu_u s7 20 21 a1)) (fun s11 => xl_l ((fy_setSegment (1 : Int32) ss (1 : Int32) s11)) (fun s12 => xl_l ((xu_u s12 20 18 sp)) (fun s13 => xl_l ((fy_pushWord v9 s13)) (fun s14 => xl_l ((fy_pushWord v10 s14)) (fun s28 => s28)))))))
theorem fe_0 (a1 : Int32) (τ : xs_S) : fy_inner_0 a1 τ = fi_p a1 (fk_0 a1) τ := rfl
def fk_1 (a1 sp ss : Int32) (s7 : xs_S) : xs_S := xl_l (fy_segmentWord (1 : Int32) (((s7 20 18) + ((2 : Int32) * (0 : Int32))) &&& (65535 : Int32)) s7) (fun r9 => xl_l ((xu_u r9.2 28 0 r9.1)) (fun s7 => (if (fy_isRaised s7) = 0 then xl_l ((s7 20 1)) (fun v9 => xl_l ((s7 20 18)) (fun v10 => xl_l ((xu_u s7 20 21 a1)) (fun s11 => xl_l ((fy_setSegment (1 : Int32) ss (1 : Int32) s11)) (fun s12 => xl_l ((xu_u s12 20 18 sp)) (fun s13 => xl_l ((fy_pushWord v9 s13)) (fun s14 => xl_l ((fy_pushWord v10 s14)) (fun s28 => xl_l ((fy_pushWord (s28 28 0) s28)) (fun s28 => s28)))))))) else s7)))
theorem fe_1 (a1 : Int32) (τ : xs_S) : fy_inner_1 a1 τ = fi_p a1 (fk_1 a1) τ := rfl
def fk_2 (a1 sp ss : Int32) (s7 : xs_S) : xs_S := xl_l (fy_segmentWord (1 : Int32) (((s7 20 18) + ((2 : Int32) * (0 : Int32))) &&& (65535 : Int32)) s7) (fun r9 => xl_l ((xu_u r9.2 28 0 r9.1)) (fun s7 => (if (fy_isRaised s7) = 0 then xl_l (fy_segmentWord (1 : Int32) (((s7 20 18) + ((2 : Int32) * (1 : Int32))) &&& (65535 : Int32)) s7) (fun r9 => xl_l ((xu_u r9.2 28 1 r9.1)) (fun s7 => (if (fy_isRaised s7) = 0 then xl_l ((s7 20 1)) (fun v9 => xl_l ((s7 20 18)) (fun v10 => xl_l ((xu_u s7 20 21 a1)) (fun s11 => xl_l ((fy_setSegment (1 : Int32) ss (1 : Int32) s11)) (fun s12 => xl_l ((xu_u s12 20 18 sp)) (fun s13 => xl_l ((fy_pushWord v9 s13)) (fun s14 => xl_l ((fy_pushWord v10 s14)) (fun s28 => xl_l ((fy_pushWord (s28 28 1) s28)) (fun s28 => xl_l ((fy_pushWord (s28 28 0) s28)) (fun s28 => s28))))))))) else s7))) else s7)))
theorem fe_2 (a1 : Int32) (τ : xs_S) : fy_inner_2 a1 τ = fi_p a1 (fk_2 a1) τ := rfl
def fk_3 (a1 sp ss : Int32) (s7 : xs_S) : xs_S := xl_l (fy_segmentWord (1 : Int32) (((s7 20 18) + ((2 : Int32) * (0 : Int32))) &&& (65535 : Int32)) s7) (fun r9 => xl_l ((xu_u r9.2 28 0 r9.1)) (fun s7 => (if (fy_isRaised s7) = 0 then xl_l (fy_segmentWord (1 : Int32) (((s7 20 18) + ((2 : Int32) * (1 : Int32))) &&& (65535 : Int32)) s7) (fun r9 => xl_l ((xu_u r9.2 28 1 r9.1)) (fun s7 => (if (fy_isRaised s7) = 0 then xl_l (fy_segmentWord (1 : Int32) (((s7 20 18) + ((2 : Int32) * (2 : Int32))) &&& (65535 : Int32)) s7) (fun r9 => xl_l ((xu_u r9.2 28 2 r9.1)) (fun s7 => (if (fy_isRaised s7) = 0 then xl_l ((s7 20 1)) (fun v9 => xl_l ((s7 20 18)) (fun v10 => xl_l ((xu_u s7 20 21 a1)) (fun s11 => xl_l ((fy_setSegment (1 : Int32) ss (1 : Int32) s11)) (fun s12 => xl_l ((xu_u s12 20 18 sp)) (fun s13 => xl_l ((fy_pushWord v9 s13)) (fun s14 => xl_l ((fy_pushWord v10 s14)) (fun s28 => xl_l ((fy_pushWord (s28 28 2) s28)) (fun s28 => xl_l ((fy_pushWord (s28 28 1) s28)) (fun s28 => xl_l ((fy_pushWord (s28 28 0) s28)) (fun s28 => s28)))))))))) else s7))) else s7))) else s7)))
theorem fe_3 (a1 : Int32) (τ : xs_S) : fy_inner_3 a1 τ = fi_p a1 (fk_3 a1) τ := rfl
def fk_4 (a1 sp ss : Int32) (s7 : xs_S) : xs_S := xl_l (fy_segmentWord (1 : Int32) (((s7 20 18) + ((2 : Int32) * (0 : Int32))) &&& (65535 : Int32)) s7) (fun r9 => xl_l ((xu_u r9.2 28 0 r9.1)) (fun s7 => (if (fy_isRaised s7) = 0 then xl_l (fy_segmentWord (1 : Int32) (((s7 20 18) + ((2 : Int32) * (1 : Int32))) &&& (65535 : Int32)) s7) (fun r9 => xl_l ((xu_u r9.2 28 1 r9.1)) (fun s7 => (if (fy_isRaised s7) = 0 then xl_l (fy_segmentWord (1 : Int32) (((s7 20 18) + ((2 : Int32) * (2 : Int32))) &&& (65535 : Int32)) s7) (fun r9 => xl_l ((xu_u r9.2 28 2 r9.1)) (fun s7 => (if (fy_isRaised s7) = 0 then xl_l (fy_segmentWord (1 : Int32) (((s7 20 18) + ((2 : Int32) * (3 : Int32))) &&& (65535 : Int32)) s7) (fun r9 => xl_l ((xu_u r9.2 28 3 r9.1)) (fun s7 => (if (fy_isRaised s7) = 0 then xl_l ((s7 20 1)) (fun v9 => xl_l ((s7 20 18)) (fun v10 => xl_l ((xu_u s7 20 21 a1)) (fun s11 => xl_l ((fy_setSegment (1 : Int32) ss (1 : Int32) s11)) (fun s12 => xl_l ((xu_u s12 20 18 sp)) (fun s13 => xl_l ((fy_pushWord v9 s13)) (fun s14 => xl_l ((fy_pushWord v10 s14)) (fun s28 => xl_l ((fy_pushWord (s28 28 3) s28)) (fun s28 => xl_l ((fy_pushWord (s28 28 2) s28)) (fun s28 => xl_l ((fy_pushWord (s28 28 1) s28)) (fun s28 => xl_l ((fy_pushWord (s28 28 0) s28)) (fun s28 => s28))))))))))) else s7))) else s7))) else s7))) else s7)))
theorem fe_4 (a1 : Int32) (τ : xs_S) : fy_inner_4 a1 τ = fi_p a1 (fk_4 a1) τ := rfl
def fk_5 (a1 sp ss : Int32) (s7 : xs_S) : xs_S := xl_l (fy_segmentWord (1 : Int32) (((s7 20 18) + ((2 : Int32) * (0 : Int32))) &&& (65535 : Int32)) s7) (fun r9 => xl_l ((xu_u r9.2 28 0 r9.1)) (fun s7 => (if (fy_isRaised s7) = 0 then xl_l (fy_segmentWord (1 : Int32) (((s7 20 18) + ((2 : Int32) * (1 : Int32))) &&& (65535 : Int32)) s7) (fun r9 => xl_l ((xu_u r9.2 28 1 r9.1)) (fun s7 => (if (fy_isRaised s7) = 0 then xl_l (fy_segmentWord (1 : Int32) (((s7 20 18) + ((2 : Int32) * (2 : Int32))) &&& (65535 : Int32)) s7) (fun r9 => xl_l ((xu_u r9.2 28 2 r9.1)) (fun s7 => (if (fy_isRaised s7) = 0 then xl_l (fy_segmentWord (1 : Int32) (((s7 20 18) + ((2 : Int32) * (3 : Int32))) &&& (65535 : Int32)) s7) (fun r9 => xl_l ((xu_u r9.2 28 3 r9.1)) (fun s7 => (if (fy_isRaised s7) = 0 then xl_l (fy_segmentWord (1 : Int32) (((s7 20 18) + ((2 : Int32) * (4 : Int32))) &&& (65535 : Int32)) s7) (fun r9 => xl_l ((xu_u r9.2 28 4 r9.1)) (fun s7 => (if (fy_isRaised s7) = 0 then xl_l ((s7 20 1)) (fun v9 => xl_l ((s7 20 18)) (fun v10 => xl_l ((xu_u s7 20 21 a1)) (fun s11 => xl_l ((fy_setSegment (1 : Int32) ss (1 : Int32) s11)) (fun s12 => xl_l ((xu_u s12 20 18 sp)) (fun s13 => xl_l ((fy_pushWord v9 s13)) (fun s14 => xl_l ((fy_pushWord v10 s14)) (fun s28 => xl_l ((fy_pushWord (s28 28 4) s28)) (fun s28 => xl_l ((fy_pushWord (s28 28 3) s28)) (fun s28 => xl_l ((fy_pushWord (s28 28 2) s28)) (fun s28 => xl_l ((fy_pushWord (s28 28 1) s28)) (fun s28 => xl_l ((fy_pushWord (s28 28 0) s28)) (fun s28 => s28)))))))))))) else s7))) else s7))) else s7))) else s7))) else s7)))
theorem fe_5 (a1 : Int32) (τ : xs_S) : fy_inner_5 a1 τ = fi_p a1 (fk_5 a1) τ := rfl
def fk_6 (a1 sp ss : Int32) (s7 : xs_S) : xs_S := xl_l (fy_segmentWord (1 : Int32) (((s7 20 18) + ((2 : Int32) * (0 : Int32))) &&& (65535 : Int32)) s7) (fun r9 => xl_l ((xu_u r9.2 28 0 r9.1)) (fun s7 => (if (fy_isRaised s7) = 0 then xl_l (fy_segmentWord (1 : Int32) (((s7 20 18) + ((2 : Int32) * (1 : Int32))) &&& (65535 : Int32)) s7) (fun r9 => xl_l ((xu_u r9.2 28 1 r9.1)) (fun s7 => (if (fy_isRaised s7) = 0 then xl_l (fy_segmentWord (1 : Int32) (((s7 20 18) + ((2 : Int32) * (2 : Int32))) &&& (65535 : Int32)) s7) (fun r9 => xl_l ((xu_u r9.2 28 2 r9.1)) (fun s7 => (if (fy_isRaised s7) = 0 then xl_l (fy_segmentWord (1 : Int32) (((s7 20 18) + ((2 : Int32) * (3 : Int32))) &&& (65535 : Int32)) s7) (fun r9 => xl_l ((xu_u r9.2 28 3 r9.1)) (fun s7 => (if (fy_isRaised s7) = 0 then xl_l (fy_segmentWord (1 : Int32) (((s7 20 18) + ((2 : Int32) * (4 : Int32))) &&& (65535 : Int32)) s7) (fun r9 => xl_l ((xu_u r9.2 28 4 r9.1)) (fun s7 => (if (fy_isRaised s7) = 0 then xl_l (fy_segmentWord (1 : Int32) (((s7 20 18) + ((2 : Int32) * (5 : Int32))) &&& (65535 : Int32)) s7) (fun r9 => xl_l ((xu_u r9.2 28 5 r9.1)) (fun s7 => (if (fy_isRaised s7) = 0 then xl_l ((s7 20 1)) (fun v9 => xl_l ((s7 20 18)) (fun v10 => xl_l ((xu_u s7 20 21 a1)) (fun s11 => xl_l ((fy_setSegment (1 : Int32) ss (1 : Int32) s11)) (fun s12 => xl_l ((xu_u s12 20 18 sp)) (fun s13 => xl_l ((fy_pushWord v9 s13)) (fun s14 => xl_l ((fy_pushWord v10 s14)) (fun s28 => xl_l ((fy_pushWord (s28 28 5) s28)) (fun s28 => xl_l ((fy_pushWord (s28 28 4) s28)) (fun s28 => xl_l ((fy_pushWord (s28 28 3) s28)) (fun s28 => xl_l ((fy_pushWord (s28 28 2) s28)) (fun s28 => xl_l ((fy_pushWord (s28 28 1) s28)) (fun s28 => xl_l ((fy_pushWord (s28 28 0) s28)) (fun s28 => s28))))))))))))) else s7))) else s7))) else s7))) else s7))) else s7))) else s7)))
theorem fe_6 (a1 : Int32) (τ : xs_S) : fy_inner_6 a1 τ = fi_p a1 (fk_6 a1) τ := rfl
def fk_7 (a1 sp ss : Int32) (s7 : xs_S) : xs_S := xl_l (fy_segmentWord (1 : Int32) (((s7 20 18) + ((2 : Int32) * (0 : Int32))) &&& (65535 : Int32)) s7) (fun r9 => xl_l ((xu_u r9.2 28 0 r9.1)) (fun s7 => (if (fy_isRaised s7) = 0 then xl_l (fy_segmentWord (1 : Int32) (((s7 20 18) + ((2 : Int32) * (1 : Int32))) &&& (65535 : Int32)) s7) (fun r9 => xl_l ((xu_u r9.2 28 1 r9.1)) (fun s7 => (if (fy_isRaised s7) = 0 then xl_l (fy_segmentWord (1 : Int32) (((s7 20 18) + ((2 : Int32) * (2 : Int32))) &&& (65535 : Int32)) s7) (fun r9 => xl_l ((xu_u r9.2 28 2 r9.1)) (fun s7 => (if (fy_isRaised s7) = 0 then xl_l (fy_segmentWord (1 : Int32) (((s7 20 18) + ((2 : Int32) * (3 : Int32))) &&& (65535 : Int32)) s7) (fun r9 => xl_l ((xu_u r9.2 28 3 r9.1)) (fun s7 => (if (fy_isRaised s7) = 0 then xl_l (fy_segmentWord (1 : Int32) (((s7 20 18) + ((2 : Int32) * (4 : Int32))) &&& (65535 : Int32)) s7) (fun r9 => xl_l ((xu_u r9.2 28 4 r9.1)) (fun s7 => (if (fy_isRaised s7) = 0 then xl_l (fy_segmentWord (1 : Int32) (((s7 20 18) + ((2 : Int32) * (5 : Int32))) &&& (65535 : Int32)) s7) (fun r9 => xl_l ((xu_u r9.2 28 5 r9.1)) (fun s7 => (if (fy_isRaised s7) = 0 then xl_l (fy_segmentWord (1 : Int32) (((s7 20 18) + ((2 : Int32) * (6 : Int32))) &&& (65535 : Int32)) s7) (fun r9 => xl_l ((xu_u r9.2 28 6 r9.1)) (fun s7 => (if (fy_isRaised s7) = 0 then xl_l ((s7 20 1)) (fun v9 => xl_l ((s7 20 18)) (fun v10 => xl_l ((xu_u s7 20 21 a1)) (fun s11 => xl_l ((fy_setSegment (1 : Int32) ss (1 : Int32) s11)) (fun s12 => xl_l ((xu_u s12 20 18 sp)) (fun s13 => xl_l ((fy_pushWord v9 s13)) (fun s14 => xl_l ((fy_pushWord v10 s14)) (fun s28 => xl_l ((fy_pushWord (s28 28 6) s28)) (fun s28 => xl_l ((fy_pushWord (s28 28 5) s28)) (fun s28 => xl_l ((fy_pushWord (s28 28 4) s28)) (fun s28 => xl_l ((fy_pushWord (s28 28 3) s28)) (fun s28 => xl_l ((fy_pushWord (s28 28 2) s28)) (fun s28 => xl_l ((fy_pushWord (s28 28 1) s28)) (fun s28 => xl_l ((fy_pushWord (s28 28 0) s28)) (fun s28 => s28)))))))))))))) else s7))) else s7))) else s7))) else s7))) else s7))) else s7))) else s7)))
theorem fe_7 (a1 : Int32) (τ : xs_S) : fy_inner_7 a1 τ = fi_p a1 (fk_7 a1) τ := rfl
section ZU
variable {fc : Int32 × Int32} {fr wt : Int32} {σ τ : xs_S}
theorem sv_findInner {a1 : Int32} {α : Type} {Φ : α → xs_S → xs_S → Prop} {Ψ : xs_S → xs_S → Prop} {f : Int32 → xs_S → xp_P α} {K : Int32 → Int32 → xs_S → xs_S} (h : zQ zs fc fr wt σ τ) (ha : σ 14 4 = a1) (k1 : ∀ sp ss σ1 τ1, zQ zs fc fr wt σ1 τ1 → zF [2, 12, 15] zl_R σ σ1 τ τ1 → zi_I 1 τ τ1 → zd_D (σ1 15) τ1 1 ss → jr_R ss 65535 → ¬ ss < 4 → σ1 15 3 = 4 → zz_Z (f sp σ1) (K sp ss τ1) Φ Ψ) (k2 : ∀ σ1 τ1, zW zs σ1 τ1 → zF [2, 12, 15] zl_R σ σ1 τ τ1 → Ψ σ1 τ1) : zz_Z (xp_b (fr_findInnerStack σ) f) (fi_p a1 K τ) Φ Ψ := by
  unfold fr_findInnerStack
  simp only [xl_e, xp_bb]
  unfold fi_p
  have hst : σ 3 8 = τ 20 23 := h.2.1.2.2.2.2.2.2.2.2.1
  rw [ha, hst]
  refine zz_b (sv_wordAt h.1 (Or.inr ⟨rfl, rfl⟩)) (fun sp σ1 r1 q1 => ?_) (fun σ1 r1 q1 => ?_)
  case refine_2 =>
    have hW := zW_F h q1.1 q1.2 (by decide) (by decide)
    rw [if_neg (zW_n hW)]
    exact k2 _ _ hW (zF_m q1.2 (by decide) (by decide))
  obtain ⟨e1, l1, F1, _⟩ := q1
  have h1 := zQ_F h l1 F1 (by decide) (by decide) (by decide)
  rw [if_pos (zQ_n h1), F1.2.1 20 (by decide), Int32.add_assoc (τ 20 23 + 4 * a1) 2 2, show (2 : Int32) + 2 = 4 by decide]
  refine zz_b (sv_wordAt h1.1 (Or.inr ⟨rfl, rfl⟩)) (fun ss σ2 r2 q2 => ?_) (fun σ2 r2 q2 => ?_)
  case refine_2 =>
    have hW := zW_F h1 q2.1 q2.2 (by decide) (by decide)
    rw [if_neg (zW_n hW)]
    exact k2 _ _ hW (zF_m (zF_t F1 q2.2) (by decide) (by decide))
  obtain ⟨e2, l2, F2, hss⟩ := q2
  have h2 := zQ_F h1 l2 F2 (by decide) (by decide) (by decide)
  rw [if_pos (zQ_n h2), rf_0 hss, e1, e2]
  have F12 : zF [2, 12, 15] zl_R σ σ2 τ r2.2 := zF_m (zF_t F1 F2) (by decide) (by decide)
  have i12 : zi_I 1 τ r2.2 := fun j hj i _ => by rw [F2.2.1 j (by simp at hj ⊢; omega), F1.2.1 j (by simp at hj ⊢; omega)]
  refine sv_sel (k := 1) (v := 10) (cd := 0) h2 hss (Or.inr (Or.inr rfl)) (by decide) (by decide) (by decide) (by decide) (by decide) (fun σ3 τ3 h3 F3 hD hn => ?_) (fun σ3 τ3 h3 F3 => ?_)
  case refine_2 =>
    rw [if_neg (zW_n h3)]
    exact k2 _ _ h3 (zF_t F12 F3)
  obtain ⟨hD, hi⟩ := hD
  rw [cn_1] at hD hi
  have F13 := zF_t F12 F3
  rw [if_pos (zQ_n h3)]
  unfold fr_rplOf
  rw [hD.2.2.2.1, hD.2.2.2.2.1]
  have fail : ∀ (v : Nat) (v' : Int32), 10 ≤ v → v ≤ 14 → v' = nI v → Ψ (xu_u (xu_u σ3 2 0 v') 2 1 (fr_codeOf ss σ2)) (xl_l (fy_raise v' (fy_codeOf ss τ3) τ3) (fun s7 => if fy_isRaised s7 = 0 then K sp ss s7 else s7)) := by
    intro v v' a b c
    obtain ⟨w1, w2⟩ := zQ_rc (σ0 := σ2) (τ0 := τ3) h3 hss a b c
    rw [xl_e, if_neg (zW_n w1)]
    exact k2 _ _ w1 (zF_t F13 (zF_m w2 (by decide) (by decide)))
  by_cases c1 : τ3 24 1 = 4
  · by_cases c2 : τ3 25 1 = a1
    · by_cases c3 : ss &&& 3 = a1
      · rw [if_pos (α := xs_S) c1, if_pos (α := xs_S) c2, if_pos (α := xs_S) c3]
        refine zz_p (by simp [c1, c2, c3]) ?_
        rw [hD.2.2.2.2.2.2.1]
        by_cases c4 : τ3 26 1 = 0
        · rw [if_pos (α := xs_S) c4]
          refine zz_n (by simp [c4]) ?_
          exact fail 12 12 (by decide) (by decide) (by decide)
        · rw [if_neg (α := xs_S) c4]
          refine zz_p (by simp [c4]) ?_
          rw [xl_e, if_pos (zQ_n h3)]
          exact k1 sp ss σ3 τ3 h3 F13 (zi_t i12 hi) hD hss hn (hD.2.2.2.1.trans c1)
      · rw [if_pos (α := xs_S) c1, if_pos (α := xs_S) c2, if_neg (α := xs_S) c3]
        refine zz_n (by simp [c1, c2, c3]) ?_
        exact fail 10 10 (by decide) (by decide) (by decide)
    · rw [if_pos (α := xs_S) c1, if_neg (α := xs_S) c2]
      refine zz_n (by simp [c1, c2]) ?_
      exact fail 10 10 (by decide) (by decide) (by decide)
  · rw [if_neg (α := xs_S) c1]
    refine zz_n (by simp [c1]) ?_
    exact fail 10 10 (by decide) (by decide) (by decide)
theorem sv_rd {j : Nat} {off : Int32} {α : Type} {Φ : α → xs_S → xs_S → Prop} {Ψ : xs_S → xs_S → Prop} {f : xs_S → xp_P α} {g : xs_S → xs_S} (h : zQ zs fc fr wt σ τ) (k1 : ∀ σ2 τ2, zQ zs fc fr wt σ2 τ2 → zF [2, 12, 17] [18, 19, 28] σ σ2 τ τ2 → σ2 17 j = τ2 28 j → (∀ i, i ≠ j → σ2 17 i = σ 17 i ∧ τ2 28 i = τ 28 i) → zz_Z (f σ2) (g τ2) Φ Ψ) (k2 : ∀ σ1 τ1, zW zs σ1 τ1 → zF [2, 12, 17] [18, 19, 28] σ σ1 τ τ1 → Ψ σ1 τ1) : zz_Z (xp_b (fr_wordIn 1 off σ) (fun b s => xl_l (xu_u s 17 j b) f)) (xl_l (fy_segmentWord 1 off τ) (fun r => xl_l (xu_u r.2 28 j r.1) (fun s => if fy_isRaised s = 0 then g s else s))) Φ Ψ := by
  refine zz_b (sv_wordIn (d := 5) (k := 1) (Or.inr (Or.inl ⟨rfl, rfl, rfl⟩)) h) (fun p σ1 r q => ?_) (fun σ1 r q => ?_)
  · obtain ⟨e, h1, F1, _⟩ := q
    refine zz_lc (fun s es => ?_)
    refine zz_lr (fun t et => ?_)
    have h2 : zQ zs fc fr wt s t := by rw [es, et]; exact h1
    have F2 : zF [2, 12, 17] [18, 19, 28] σ s τ t := by rw [es, et]; exact zF_y (zF_c (zF_m F1 (by decide) (by decide)) (by decide)) (by decide) (by decide)
    rw [if_pos (zQ_n h2)]
    refine k1 s t h2 F2 (by rw [es, et, xu_same, xu_same, e]) (fun i hi => ?_)
    rw [es, et, xu_off (fun z => hi z.2), xu_off (fun z => hi z.2), F1.1 17 (by decide), F1.2.1 28 (by decide)]
    exact ⟨rfl, rfl⟩
  · have hW : zW zs σ1 (xu_u r.2 28 j r.1) := q.1
    rw [xl_e, if_neg (zW_n hW)]
    exact k2 _ _ hW (zF_y (zF_m q.2 (by decide) (by decide)) (by decide) (by decide))
theorem zQ_rs {x : Int32} (h : zQ zs fc fr wt σ τ) (hx : jr_R x 3) : zQ zs fc fr wt (xu_u σ 3 6 x) (xu_u τ 20 21 x) := by
  obtain ⟨⟨b0, b1, b2, b3, b4, _⟩, ⟨a0, a1, a2, a3, a4, a5, _, a7, a8, a9, a10⟩, h3, h4, h5⟩ := h
  exact ⟨⟨b0, b1, b2, b3, b4, rfl⟩, ⟨a0, a1, a2, a3, a4, a5, ⟨rfl, hx⟩, a7, a8, a9, a10⟩, h3, h4, h5⟩
theorem sv_fin {a1 sp ss : Int32} (h : zQ zs fc fr wt σ τ) (ha : σ 14 4 = a1) (hl : jr_R a1 3) (hD : zd_D (σ 15) τ 1 ss) (hs : jr_R ss 65535) (hn : ¬ ss < 4) (h4 : σ 15 3 = 4) {α β : Type} {Φ : α → xs_S → β → Prop} {Ψ : xs_S → β → Prop} {f : xs_S → xp_P α} {g : xs_S → β} (k : ∀ σ1 τ1, zQ zs fc fr wt σ1 τ1 → zF [2, 3, 5, 12] [18, 19, 20] σ σ1 τ τ1 → zz_Z (f σ1) (g τ1) Φ Ψ) : zz_Z (xl_l ((xu_u σ 3 6 (σ 14 4))) (fun s3 => xl_l ((fd_copy 5 15 s3)) (fun s4 => xl_l ((xu_u s4 3 3 sp)) f))) (xl_l ((xu_u τ 20 21 a1)) (fun s11 => xl_l ((fy_setSegment (1 : Int32) ss (1 : Int32) s11)) (fun s12 => xl_l ((xu_u s12 20 18 sp)) g))) Φ Ψ := by
  rw [ha]
  have hI : zI 1 5 1 := Or.inr (Or.inl ⟨rfl, rfl, rfl⟩)
  refine zz_lc (fun s3 e3 => ?_)
  refine zz_lr (fun t3 f3 => ?_)
  have h3 : zQ zs fc fr wt s3 t3 := by rw [e3, f3]; exact zQ_rs h hl
  have F3 : zF [2, 3, 5, 12] [18, 19, 20] σ s3 τ t3 := by rw [e3, f3]; exact zF_y (zF_c zF_r (by decide)) (by decide) (by decide)
  have D3 : zd_D (s3 15) t3 (1 : Int32).toNatClampNeg ss := by rw [e3, f3, cn_1]; exact hD
  have k3 : s3 15 3 = 4 := by rw [e3]; exact h4
  refine zz_lc (fun s4 e4 => ?_)
  refine zz_lr (fun t4 f4 => ?_)
  have h5 : zQ zs fc fr wt s4 t4 := by rw [e4, f4]; exact zQ_set hI (Or.inr (Or.inr rfl)) h3 D3 hs hn (fun _ => k3)
  have F4 : zF [2, 3, 5, 12] [18, 19, 20] σ s4 τ t4 := by rw [e4, f4]; exact zs_F F3 hI (by decide) (by decide)
  refine zz_lc (fun s5 e5 => ?_)
  refine zz_lr (fun t5 f5 => ?_)
  refine k s5 t5 ?_ ?_
  · rw [e5, f5]; exact zQ_sp h5
  · rw [e5, f5]; exact zF_y (zF_c F4 (by decide)) (by decide) (by decide)
end ZU
