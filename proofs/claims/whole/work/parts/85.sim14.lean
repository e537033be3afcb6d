/-! A task is switched: reads, saves, marks. -/
variable {zs : Int32}
def tw_u (a1 a2 v2 : Int32) (s22 : xs_S) : xs_S := xl_l ((xu_u s22 18 10 ((1 : Int32) &&& 1))) (fun s24 => xl_l ((xu_u s24 18 11 ((1 : Int32) &&& 1))) (fun s25 => xl_l ((xu_u s25 20 22 (fy_codeOf a1 s25))) (fun s26 => xl_l ((xu_u s26 20 23 v2)) (fun s27 => xl_l ((xu_u s27 20 19 (s27 28 0))) (fun s28 => xl_l ((xu_u s28 20 20 (((s28 28 1) &&& (3 : Int32)) ||| (if a2 = (1 : Int32) then (2 : Int32) else (0 : Int32))))) (fun s29 => xl_l ((xu_u s29 20 18 (s29 28 2))) (fun s30 => xl_l ((xu_u s30 20 21 ((s30 28 6) &&& (3 : Int32)))) (fun s31 => xl_l ((xu_u s31 20 24 ((s31 28 7) &&& (31 : Int32)))) (fun s32 => xl_l ((s32 28 4)) (fun v33 => xl_l ((s32 28 5)) (fun v34 => xl_l ((fy_take (0 : Int32) (s32 28 3) s32)) (fun s35 => xl_l ((fy_take (1 : Int32) v33 s35)) (fun s36 => xl_l ((fy_take (2 : Int32) v34 s36)) (fun s37 => s37))))))))))))))
def tw_m (a1 a2 v2 : Int32) (s19 : xs_S) : xs_S := xl_l ((if a2 = (1 : Int32) then s19 else (if (fy_isNull (s19 20 22) s19) = 0 then (fy_setKind (s19 20 22) (5 : Int32) s19) else s19))) (fun s20 => xl_l ((if a2 = (2 : Int32) then s20 else (fy_setKind a1 (6 : Int32) s20))) (fun s21 => xl_l ((if a2 = (1 : Int32) then (fy_saveWord v2 (s21 20 22) s21) else s21)) (fun s22 => (if (fy_isRaised s22) = 0 then tw_u a1 a2 v2 s22 else s22))))
def tv_7 (a1 a2 v2 v11 : Int32) (s : xs_S) : xs_S := xl_l ((fy_saveWord (v11 + (14 : Int32)) (s 20 24) s)) (fun s1 => tw_m a1 a2 v2 s1)
def tv_6 (a1 a2 v2 v11 : Int32) (s : xs_S) : xs_S := xl_l ((fy_saveWord (v11 + (12 : Int32)) (s 20 21) s)) (fun s1 => tv_7 a1 a2 v2 v11 s1)
def tv_5 (a1 a2 v2 v11 : Int32) (s : xs_S) : xs_S := xl_l ((fy_saveWord (v11 + (10 : Int32)) (s 20 2) s)) (fun s1 => tv_6 a1 a2 v2 v11 s1)
def tv_4 (a1 a2 v2 v11 : Int32) (s : xs_S) : xs_S := xl_l ((fy_saveWord (v11 + (8 : Int32)) (s 20 1) s)) (fun s1 => tv_5 a1 a2 v2 v11 s1)
def tv_3 (a1 a2 v2 v11 : Int32) (s : xs_S) : xs_S := xl_l ((fy_saveWord (v11 + (6 : Int32)) (s 20 0) s)) (fun s1 => tv_4 a1 a2 v2 v11 s1)
def tv_2 (a1 a2 v2 v11 : Int32) (s : xs_S) : xs_S := xl_l ((fy_saveWord (v11 + (4 : Int32)) (s 20 18) s)) (fun s1 => tv_3 a1 a2 v2 v11 s1)
def tv_1 (a1 a2 v2 v11 : Int32) (s : xs_S) : xs_S := xl_l ((fy_saveWord (v11 + (2 : Int32)) (if a2 = (2 : Int32) then ((s 20 20) &&& (1 : Int32)) else (s 20 20)) s)) (fun s1 => tv_2 a1 a2 v2 v11 s1)
def tv_0 (a1 a2 v2 v11 : Int32) (s : xs_S) : xs_S := xl_l ((fy_saveWord v11 (fy_nextIp s) s)) (fun s1 => tv_1 a1 a2 v2 v11 s1)
def tw_8 (a1 a2 v2 : Int32) (s : xs_S) : xs_S := xl_l (((s 20 23) + (14 : Int32))) (fun v11 => tv_0 a1 a2 v2 v11 s)
def tw_7 (a1 a2 v2 : Int32) (s : xs_S) : xs_S := xl_l ((if (fy_isRaised s) = 0 then (xu_u (fy_readWord ((v2 + (14 : Int32)) + ((2 : Int32) * (7 : Int32))) (1 : Int32) s).2 28 7 (fy_readWord ((v2 + (14 : Int32)) + ((2 : Int32) * (7 : Int32))) (1 : Int32) s).1) else s)) (fun s1 => tw_8 a1 a2 v2 s1)
def tw_6 (a1 a2 v2 : Int32) (s : xs_S) : xs_S := xl_l ((if (fy_isRaised s) = 0 then (xu_u (fy_readWord ((v2 + (14 : Int32)) + ((2 : Int32) * (6 : Int32))) (1 : Int32) s).2 28 6 (fy_readWord ((v2 + (14 : Int32)) + ((2 : Int32) * (6 : Int32))) (1 : Int32) s).1) else s)) (fun s1 => tw_7 a1 a2 v2 s1)
def tw_5 (a1 a2 v2 : Int32) (s : xs_S) : xs_S := xl_l ((if (fy_isRaised s) = 0 then (xu_u (fy_readWord ((v2 + (14 : Int32)) + ((2 : Int32) * (5 : Int32))) (1 : Int32) s).2 28 5 (fy_readWord ((v2 + (14 : Int32)) + ((2 : Int32) * (5 : Int32))) (1 : Int32) s).1) else s)) (fun s1 => tw_6 a1 a2 v2 s1)
def tw_4 (a1 a2 v2 : Int32) (s : xs_S) : xs_S := xl_l ((if (fy_isRaised s) = 0 then (xu_u (fy_readWord ((v2 + (14 : Int32)) + ((2 : Int32) * (4 : Int32))) (1 : Int32) s).2 28 4 (fy_readWord ((v2 + (14 : Int32)) + ((2 : Int32) * (4 : Int32))) (1 : Int32) s).1) else s)) (fun s1 => tw_5 a1 a2 v2 s1)
def tw_3 (a1 a2 v2 : Int32) (s : xs_S) : xs_S := xl_l ((if (fy_isRaised s) = 0 then (xu_u (fy_readWord ((v2 + (14 : Int32)) + ((2 : Int32) * (3 : Int32))) (1 : Int32) s).2 28 3 (fy_readWord ((v2 + (14 : Int32)) + ((2 : Int32) * (3 : Int32))) (1 : Int32) s).1) else s)) (fun s1 => tw_4 a1 a2 v2 s1)
def tw_2 (a1 a2 v2 : Int32) (s : xs_S) : xs_S := xl_l ((if (fy_isRaised s) = 0 then (xu_u (fy_readWord ((v2 + (14 : Int32)) + ((2 : Int32) * (2 : Int32))) (1 : Int32) s).2 28 2 (fy_readWord ((v2 + (14 : Int32)) + ((2 : Int32) * (2 : Int32))) (1 : Int32) s).1) else s)) (fun s1 => tw_3 a1 a2 v2 s1)
def tw_1 (a1 a2 v2 : Int32) (s : xs_S) : xs_S := xl_l ((if (fy_isRaised s) = 0 then (xu_u (fy_readWord ((v2 + (14 : Int32)) + ((2 : Int32) * (1 : Int32))) (1 : Int32) s).2 28 1 (fy_readWord ((v2 + (14 : Int32)) + ((2 : Int32) * (1 : Int32))) (1 : Int32) s).1) else s)) (fun s1 => tw_2 a1 a2 v2 s1)
def tw_0 (a1 a2 v2 : Int32) (s : xs_S) : xs_S := xl_l ((if (fy_isRaised s) = 0 then (xu_u (fy_readWord ((v2 + (14 : Int32)) + ((2 : Int32) * (0 : Int32))) (1 : Int32) s).2 28 0 (fy_readWord ((v2 + (14 : Int32)) + ((2 : Int32) * (0 : Int32))) (1 : Int32) s).1) else s)) (fun s1 => tw_1 a1 a2 v2 s1)
theorem tw_e (a1 a2 : Int32) (τ : xs_S) : fy_switchTo a1 a2 τ = xl_l ((if (τ 24 0) = (if a2 = (2 : Int32) then (6 : Int32) else (5 : Int32)) then τ else (fy_raise (13 : Int32) (fy_codeOf a1 τ) τ))) (fun s1 => xl_l ((s1 22 0)) (fun v2 => tw_0 a1 a2 v2 s1)) := rfl
section TW
variable {a1 a2 v2 v11 : Int32} {s : xs_S}
theorem ym_save {a b : Int32} (h : ¬ fy_isRaised s = 0) : fy_saveWord a b s = s := by
  unfold fy_saveWord
  rw [if_neg h]
theorem ym_kind {a b : Int32} (h : ¬ fy_isRaised s = 0) : fy_setKind a b s = s := by
  unfold fy_setKind
  rw [xl_e, if_neg h]
theorem tw_rm (h : ¬ fy_isRaised s = 0) : tw_m a1 a2 v2 s = s := by
  unfold tw_m
  simp only [xl_e, ym_kind h, ym_save h, ite_self, if_neg h]
theorem tv_r7 (h : ¬ fy_isRaised s = 0) : tv_7 a1 a2 v2 v11 s = s := by
  unfold tv_7
  rw [ym_save h, xl_e, tw_rm h]
theorem tv_r6 (h : ¬ fy_isRaised s = 0) : tv_6 a1 a2 v2 v11 s = s := by
  unfold tv_6
  rw [ym_save h, xl_e, tv_r7 h]
theorem tv_r5 (h : ¬ fy_isRaised s = 0) : tv_5 a1 a2 v2 v11 s = s := by
  unfold tv_5
  rw [ym_save h, xl_e, tv_r6 h]
theorem tv_r4 (h : ¬ fy_isRaised s = 0) : tv_4 a1 a2 v2 v11 s = s := by
  unfold tv_4
  rw [ym_save h, xl_e, tv_r5 h]
theorem tv_r3 (h : ¬ fy_isRaised s = 0) : tv_3 a1 a2 v2 v11 s = s := by
  unfold tv_3
  rw [ym_save h, xl_e, tv_r4 h]
theorem tv_r2 (h : ¬ fy_isRaised s = 0) : tv_2 a1 a2 v2 v11 s = s := by
  unfold tv_2
  rw [ym_save h, xl_e, tv_r3 h]
theorem tv_r1 (h : ¬ fy_isRaised s = 0) : tv_1 a1 a2 v2 v11 s = s := by
  unfold tv_1
  rw [ym_save h, xl_e, tv_r2 h]
theorem tv_r0 (h : ¬ fy_isRaised s = 0) : tv_0 a1 a2 v2 v11 s = s := by
  unfold tv_0
  rw [ym_save h, xl_e, tv_r1 h]
theorem tw_r8 (h : ¬ fy_isRaised s = 0) : tw_8 a1 a2 v2 s = s := by
  unfold tw_8
  rw [xl_e, tv_r0 h]
theorem tw_r7 (h : ¬ fy_isRaised s = 0) : tw_7 a1 a2 v2 s = s := by
  unfold tw_7
  rw [if_neg h, xl_e, tw_r8 h]
theorem tw_r6 (h : ¬ fy_isRaised s = 0) : tw_6 a1 a2 v2 s = s := by
  unfold tw_6
  rw [if_neg h, xl_e, tw_r7 h]
theorem tw_r5 (h : ¬ fy_isRaised s = 0) : tw_5 a1 a2 v2 s = s := by
  unfold tw_5
  rw [if_neg h, xl_e, tw_r6 h]
theorem tw_r4 (h : ¬ fy_isRaised s = 0) : tw_4 a1 a2 v2 s = s := by
  unfold tw_4
  rw [if_neg h, xl_e, tw_r5 h]
theorem tw_r3 (h : ¬ fy_isRaised s = 0) : tw_3 a1 a2 v2 s = s := by
  unfold tw_3
  rw [if_neg h, xl_e, tw_r4 h]
theorem tw_r2 (h : ¬ fy_isRaised s = 0) : tw_2 a1 a2 v2 s = s := by
  unfold tw_2
  rw [if_neg h, xl_e, tw_r3 h]
theorem tw_r1 (h : ¬ fy_isRaised s = 0) : tw_1 a1 a2 v2 s = s := by
  unfold tw_1
  rw [if_neg h, xl_e, tw_r2 h]
theorem tw_r0 (h : ¬ fy_isRaised s = 0) : tw_0 a1 a2 v2 s = s := by
  unfold tw_0
  rw [if_neg h, xl_e, tw_r1 h]
end TW
section ZM
variable {fc : Int32 × Int32} {fr wt : Int32} {σ τ : xs_S}
theorem zQ_28 {i : Nat} {v : Int32} (h : zQ zs fc fr wt σ τ) : zQ zs fc fr wt σ (xu_u τ 28 i v) := h
theorem zW_28 {i : Nat} {v : Int32} (h : zW zs σ τ) : zW zs σ (xu_u τ 28 i v) := h
theorem zQ_16 {i : Nat} {v : Int32} (h : zQ zs fc fr wt σ τ) : zQ zs fc fr wt (xu_u σ 16 i v) τ := h
theorem sv_rw {j : Nat} {a : Int32} {α : Type} {Φ : α → xs_S → xs_S → Prop} {Ψ : xs_S → xs_S → Prop} {f : xs_S → xp_P α} {g : xs_S → xs_S} (h : zQ zs fc fr wt σ τ) (k1 : ∀ σ2 τ2, zQ zs fc fr wt σ2 τ2 → zF [2, 12, 16] [18, 19, 28] σ σ2 τ τ2 → (σ2 16 j = τ2 28 j ∧ jr_R (σ2 16 j) 65535) → (∀ i, i ≠ j → σ2 16 i = σ 16 i ∧ τ2 28 i = τ 28 i) → zz_Z (f σ2) (g τ2) Φ Ψ) (k2 : ∀ σ1 τ1, zW zs σ1 τ1 → zF [2, 12, 16] [18, 19, 28] σ σ1 τ τ1 → Ψ σ1 (g τ1)) : zz_Z (xp_b (fm_wordAt a 0 σ) (fun b s => xl_l (xu_u s 16 j b) f)) (xl_l (if fy_isRaised τ = 0 then xu_u (fy_readWord a 1 τ).2 28 j (fy_readWord a 1 τ).1 else τ) g) Φ Ψ := by
  rw [if_pos (zQ_n h)]
  refine zz_bw (Φ1 := fun p σ' τ' => zQ zs fc fr wt σ' τ' ∧ zF [2, 12, 16] [18, 19, 28] σ σ' τ τ' ∧ p = τ' 28 j ∧ jr_R p 65535 ∧ (∀ i, i ≠ j → τ' 28 i = τ 28 i) ∧ σ' 16 = σ 16) (Ψ1 := fun σ' τ' => zW zs σ' τ' ∧ zF [2, 12, 16] [18, 19, 28] σ σ' τ τ') (zz_m (sv_wordAt h.1 (Or.inr ⟨rfl, rfl⟩)) (fun p σ' q => ?_) (fun σ' q => ?_)) (fun p σ1 τ1 q => ?_) (fun σ1 τ1 q => k2 σ1 τ1 q.1 q.2)
  · obtain ⟨e, l, F, r⟩ := q
    have h1 := zQ_F h l F (by decide) (by decide) (by decide)
    refine ⟨zQ_28 h1, zF_y (zF_m F (by decide) (by decide)) (by decide) (by decide), by rw [xu_same, e], r, fun i hi => ?_, F.1 16 (by decide)⟩
    rw [xu_off (fun z => hi z.2), F.2.1 28 (by decide)]
  · exact ⟨zW_28 (zW_F h q.1 q.2 (by decide) (by decide)), zF_y (zF_m q.2 (by decide) (by decide)) (by decide) (by decide)⟩
  · obtain ⟨h1, F1, e1, r1, i1, s16⟩ := q
    refine zz_lc (fun s es => ?_)
    have h2 : zQ zs fc fr wt s τ1 := by rw [es]; exact zQ_16 h1
    have F2 : zF [2, 12, 16] [18, 19, 28] σ s τ τ1 := by rw [es]; exact zF_c F1 (by decide)
    have e16 : s 16 j = p := by rw [es, xu_same]
    refine k1 s τ1 h2 F2 ⟨e16.trans e1, by rw [e16]; exact r1⟩ (fun i hi => ⟨?_, i1 i hi⟩)
    rw [es, xu_off (fun z => hi z.2), s16]
theorem sv_save {a v : Int32} (h : zQ zs fc fr wt σ τ) : zz_Z (fm_setWord a v 0 σ) (fy_saveWord a v τ) (fun _ σ' τ' => zQ zs fc fr wt σ' τ' ∧ zF [2, 12] [18, 19] σ σ' τ τ') (fun σ' τ' => zW zs σ' τ' ∧ zF [2, 12] [18, 19] σ σ' τ τ') := by
  unfold fy_saveWord
  rw [if_pos (zQ_n h), xl_e]
  refine zz_m (sv_setWord h.1 (Or.inr ⟨rfl, rfl⟩)) (fun _ σ1 q => ?_) (fun σ1 q => ?_)
  · exact ⟨zQ_F h q.1 q.2 (by decide) (by decide) (by decide), q.2⟩
  · exact ⟨zW_F h q.1 q.2 (by decide) (by decide), q.2⟩
theorem sv_setKind {a v : Int32} (h : zQ zs fc fr wt σ τ) (ha : jr_R a 65535) : zz_Z (fr_setKind a v σ) (fy_setKind a v τ) (fun _ σ' τ' => zQ zs fc fr wt σ' τ' ∧ zF [2, 12] [18, 19] σ σ' τ τ') (fun σ' τ' => zW zs σ' τ' ∧ zF [2, 12] [18, 19] σ σ' τ τ') := by
  unfold fr_setKind fy_setKind
  rw [sl_4 ha, h.1.1.2.1]
  refine zz_lc (fun v1 e1 => ?_)
  refine zz_lr (fun w1 f1 => ?_)
  obtain rfl : v1 = w1 := e1.trans f1.symm
  rw [if_pos (zQ_n h)]
  refine zz_b (sv_byteAt h.1 (Or.inr ⟨rfl, rfl⟩)) (fun p σ1 r q => ?_) (fun σ1 r q => ?_)
  · obtain ⟨e, l, F, _⟩ := q
    have h1 := zQ_F h l F (by decide) (by decide) (by decide)
    rw [if_pos (zQ_n h1), e]
    refine zz_b (sv_setByte l (Or.inr ⟨rfl, rfl⟩)) (fun _ σ2 τ2 q2 => ?_) (fun σ2 τ2 q2 => ?_)
    · exact zz_s ⟨zQ_F h1 q2.1 q2.2 (by decide) (by decide) (by decide), zF_t F q2.2⟩
    · exact ⟨zW_F h1 q2.1 q2.2 (by decide) (by decide), zF_t F q2.2⟩
  · have hW := zW_F h q.1 q.2 (by decide) (by decide)
    rw [if_neg (zW_n hW)]
    exact ⟨hW, q.2⟩
end ZM
