def fd_flat (c : Nat) (a1 : Int32) (a2 : Int32) (σ : xs_S) : xs_S := xl_l ((xu_u σ c 0 a1)) (fun s1 => xl_l ((xu_u s1 c 3 a2)) (fun s2 => xl_l ((xu_u s2 c 2 (4095 : Int32))) (fun s3 => xl_l ((xu_u s3 c 6 ((1 : Int32) &&& 1))) (fun s4 => s4))))
set_option maxRecDepth 100000 in
set_option maxHeartbeats 4000000 in
theorem md_flat {l : Launch} {N n u : Nat} {c : Nat} {a1 : Int32} {a2 : Int32} {σ : xs_S} (hl : l.stackTraces = false) (hn : 29 ≤ n) (h0_c : 0 < c) (hi_c : c < n) (hk_c : xk_k N c = (0, 0)) : xm_m (xk_k N) l td_flat [.ref c, .int a1, .int a2] (n, u, σ, xr_0) (xe_w n u (fd_flat c a1 a2 σ)) := by
  refine xm_of hl ok_d_flat (Nat.le_of_ble_eq_true rfl) ?_
  show xw_w (xk_k N) l td_flat 0 [some (.ref c), some (.int a1), some (.int a2)] [] (n, u, σ, xr_0) (xe_w n u (fd_flat c a1 a2 σ))
  unfold fd_flat
  refine xw_aload0 dd_flat_0 ?_
  refine xw_iload1 dd_flat_1 ?_
  refine xw_putI dd_flat_2 fl_d_9 nf_0_0 h0_c hi_c hk_c ?_
  refine xw_lw (fun s1 e_s1 => ?_)
  refine xw_aload0 dd_flat_5 ?_
  refine xw_iload2 dd_flat_6 ?_
  refine xw_putI dd_flat_7 fl_d_22 nf_0_3 h0_c hi_c hk_c ?_
  refine xw_lw (fun s2 e_s2 => ?_)
  refine xw_aload0 dd_flat_10 ?_
  refine xw_sipush dd_flat_11 ks_4095 ?_
  refine xw_putI dd_flat_14 fl_d_19 nf_0_2 h0_c hi_c hk_c ?_
  refine xw_lw (fun s3 e_s3 => ?_)
  refine xw_aload0 dd_flat_17 ?_
  refine xw_iconst dd_flat_18 ki_1 ?_
  refine xw_putZ dd_flat_19 fl_d_28 nf_0_6 h0_c hi_c hk_c ?_
  refine xw_lw (fun s4 e_s4 => ?_)
  exact xw_vret dd_flat_22 rfl
theorem jd_flat {c : Nat} {a1 : Int32} {a2 : Int32} {σ : xs_S} (hJ : jx_J σ) : jx_J (fd_flat c a1 a2 σ) := by
  unfold fd_flat
  refine xj_wl (fun s1 e_s1 => ?_)
  have hJ_s1 : jx_J s1 := by rw [e_s1]; exact (jx_d hJ (by decide) (by decide))
  refine xj_wl (fun s2 e_s2 => ?_)
  have hJ_s2 : jx_J s2 := by rw [e_s2]; exact (jx_d hJ_s1 (by decide) (by decide))
  refine xj_wl (fun s3 e_s3 => ?_)
  have hJ_s3 : jx_J s3 := by rw [e_s3]; exact (jx_d hJ_s2 (by decide) (by decide))
  refine xj_wl (fun s4 e_s4 => ?_)
  have hJ_s4 : jx_J s4 := by rw [e_s4]; exact (jx_d hJ_s3 (by decide) (by decide))
  exact hJ_s4
def fm_put (a1 : Int32) (a2 : Int32) (σ : xs_S) : xs_S := (if (2048 : Int32) ≤ a1 then σ else xl_l ((xu_u σ 12 (a1).toNatClampNeg (a2 &&& (255 : Int32)))) (fun s2 => s2))
set_option maxRecDepth 100000 in
set_option maxHeartbeats 4000000 in
theorem mm_put {l : Launch} {N n u : Nat} {a1 : Int32} {a2 : Int32} {σ : xs_S} (hl : l.stackTraces = false) (hn : 29 ≤ n) (hp1 : ¬ a1 < 0) : xm_m (xk_k N) l tm_put [.ref 11, .int a1, .int a2] (n, u, σ, xr_0) (xe_w n u (fm_put a1 a2 σ)) := by
  refine xm_of hl ok_m_put (Nat.le_of_ble_eq_true rfl) ?_
  show xw_w (xk_k N) l tm_put 0 [some (.ref 11), some (.int a1), some (.int a2)] [] (n, u, σ, xr_0) (xe_w n u (fm_put a1 a2 σ))
  unfold fm_put
  refine xw_iload1 dm_put_0 ?_
  refine xw_sipush dm_put_1 ks_2048 ?_
  refine xw_icmp_ge' dm_put_4 rfl (fun h1 => ?_) (fun h1 => ?_)
  · exact xw_vret dm_put_18 rfl
  · refine xw_aload0 dm_put_7 ?_
    refine xw_getR dm_put_8 fl_m_19 (xl_n hn (by decide)) rfl r_11_2 ?_
    refine xw_iload1 dm_put_11 ?_
    refine xw_iload2 dm_put_12 ?_
    refine xw_sipush dm_put_13 ks_255 ?_
    refine xw_iand dm_put_16 ?_
    refine xw_iast dm_put_17 (by decide) (xl_n hn (by decide)) rfl (vi_b hp1 h1) rfl ?_
    refine xw_lw (fun s2 e_s2 => ?_)
    exact xw_vret dm_put_18 rfl
theorem jm_put {a1 : Int32} {a2 : Int32} {σ : xs_S} (hJ : jx_J σ) : jx_J (fm_put a1 a2 σ) := by
  unfold fm_put
  refine xj_wf (fun h1 => ?_) (fun h1 => ?_)
  · exact hJ
  · refine xj_wl (fun s2 e_s2 => ?_)
    have hJ_s2 : jx_J s2 := by rw [e_s2]; exact (jx_c hJ (by decide))
    exact hJ_s2
def fr_poke (a1 : Int32) (a2 : Int32) (σ : xs_S) : Int32 × xs_S := (if a1 < 0 then ((0 : Int32), σ) else (if a1 < (2048 : Int32) then xl_l ((fm_put a1 a2 σ)) (fun s3 => ((1 : Int32), s3)) else ((0 : Int32), σ)))
set_option maxRecDepth 100000 in
set_option maxHeartbeats 4000000 in
theorem mr_poke {l : Launch} {N n u : Nat} {a1 : Int32} {a2 : Int32} {σ : xs_S} (hl : l.stackTraces = false) (hn : 29 ≤ n) : xm_m (xk_k N) l tr_poke [.ref 1, .int a1, .int a2] (n, u, σ, xr_0) (xe_p ei_i n u (fr_poke a1 a2 σ)) := by
  refine xm_of hl ok_r_poke (Nat.le_of_ble_eq_true rfl) ?_
  show xw_w (xk_k N) l tr_poke 0 [some (.ref 1), some (.int a1), some (.int a2)] [] (n, u, σ, xr_0) (xe_p ei_i n u (fr_poke a1 a2 σ))
  unfold fr_poke
  refine xw_iload1 dr_poke_0 ?_
  refine xw_if_lt' dr_poke_1 rfl (fun h1 => ?_) (fun h1 => ?_)
  · refine xw_iconst dr_poke_11 ki_0 ?_
    exact xw_zret dr_poke_12 rfl (by decide)
  · refine xw_iload1 dr_poke_4 ?_
    refine xw_sipush dr_poke_5 ks_2048 ?_
    refine xw_icmp_lt' dr_poke_8 rfl (fun h2 => ?_) (fun h2 => ?_)
    · refine xw_aload0 dr_poke_13 ?_
      refine xw_getR dr_poke_14 fl_r_31 (xl_n hn (by decide)) rfl r_1_3 ?_
      refine xw_iload1 dr_poke_17 ?_
      refine xw_iload2 dr_poke_18 ?_
      refine xw_cW dr_poke_19 (lk_r_poke_19 (xl_n hn (by decide)) rfl) ok_m_put (mm_put hl hn h1) ⟨Nat.le_of_ble_eq_true rfl, Nat.le_of_ble_eq_true rfl⟩ ?_
      refine xw_lw (fun s3 e_s3 => ?_)
      refine xw_iconst dr_poke_22 ki_1 ?_
      exact xw_zret dr_poke_23 rfl (by decide)
    · refine xw_iconst dr_poke_11 ki_0 ?_
      exact xw_zret dr_poke_12 rfl (by decide)
theorem jr_poke {a1 : Int32} {a2 : Int32} {σ : xs_S} (hJ : jx_J σ) : jx_J (fr_poke a1 a2 σ).2 := by
  unfold fr_poke
  refine xj_f (fun h1 => ?_) (fun h1 => ?_)
  · exact hJ
  · refine xj_f (fun h2 => ?_) (fun h2 => ?_)
    · refine xj_l (fun s3 e_s3 => ?_)
      have hJ_s3 : jx_J s3 := by rw [e_s3]; exact (jm_put hJ)
      exact hJ_s3
    · exact hJ
def fm_at (a1 : Int32) (σ : xs_S) : Int32 := (if (2048 : Int32) ≤ a1 then (255 : Int32) else (σ 12 (a1).toNatClampNeg))
set_option maxRecDepth 100000 in
set_option maxHeartbeats 4000000 in
theorem mm_at {l : Launch} {N n u : Nat} {a1 : Int32} {σ : xs_S} (hl : l.stackTraces = false) (hn : 29 ≤ n) (hp1 : ¬ a1 < 0) : xm_m (xk_k N) l tm_at [.ref 11, .int a1] (n, u, σ, xr_0) (xe_v ei_i n u σ (fm_at a1 σ)) := by
  refine xm_of hl ok_m_at (Nat.le_of_ble_eq_true rfl) ?_
  show xw_w (xk_k N) l tm_at 0 [some (.ref 11), some (.int a1)] [] (n, u, σ, xr_0) (xe_v ei_i n u σ (fm_at a1 σ))
  unfold fm_at
  refine xw_iload1 dm_at_0 ?_
  refine xw_sipush dm_at_1 ks_2048 ?_
  refine xw_icmp_ge' dm_at_4 rfl (fun h1 => ?_) (fun h1 => ?_)
  · refine xw_sipush dm_at_16 ks_255 ?_
    exact xw_iret dm_at_19 rfl
  · refine xw_aload0 dm_at_7 ?_
    refine xw_getR dm_at_8 fl_m_19 (xl_n hn (by decide)) rfl r_11_2 ?_
    refine xw_iload1 dm_at_11 ?_
    refine xw_iald dm_at_12 (xl_n hn (by decide)) rfl (vi_b hp1 h1) rfl ?_
    refine xw_goto dm_at_13 rfl ?_
    exact xw_iret dm_at_19 rfl
def fr_peek (a1 : Int32) (σ : xs_S) : Int32 := (if a1 < 0 then (-1 : Int32) else (if a1 < (2048 : Int32) then (fm_at a1 σ) else (-1 : Int32)))
set_option maxRecDepth 100000 in
set_option maxHeartbeats 4000000 in
theorem mr_peek {l : Launch} {N n u : Nat} {a1 : Int32} {σ : xs_S} (hl : l.stackTraces = false) (hn : 29 ≤ n) : xm_m (xk_k N) l tr_peek [.ref 1, .int a1] (n, u, σ, xr_0) (xe_v ei_i n u σ (fr_peek a1 σ)) := by
  refine xm_of hl ok_r_peek (Nat.le_of_ble_eq_true rfl) ?_
  show xw_w (xk_k N) l tr_peek 0 [some (.ref 1), some (.int a1)] [] (n, u, σ, xr_0) (xe_v ei_i n u σ (fr_peek a1 σ))
  unfold fr_peek
  refine xw_iload1 dr_peek_0 ?_
  refine xw_if_lt' dr_peek_1 rfl (fun h1 => ?_) (fun h1 => ?_)
  · refine xw_iconst dr_peek_11 ki_m1 ?_
    exact xw_iret dr_peek_12 rfl
  · refine xw_iload1 dr_peek_4 ?_
    refine xw_sipush dr_peek_5 ks_2048 ?_
    refine xw_icmp_lt' dr_peek_8 rfl (fun h2 => ?_) (fun h2 => ?_)
    · refine xw_aload0 dr_peek_13 ?_
      refine xw_getR dr_peek_14 fl_r_31 (xl_n hn (by decide)) rfl r_1_3 ?_
      refine xw_iload1 dr_peek_17 ?_
      refine xw_cVi dr_peek_18 (lk_r_peek_18 (xl_n hn (by decide)) rfl) ok_m_at (mm_at hl hn h1) ⟨Nat.le_of_ble_eq_true rfl, Nat.le_of_ble_eq_true rfl⟩ ?_
      exact xw_iret dr_peek_21 rfl
    · refine xw_iconst dr_peek_11 ki_m1 ?_
      exact xw_iret dr_peek_12 rfl
def fr_fill (a1 : Int32) (a2 : Int64) (σ : xs_S) : Int32 × xs_S := (if a1 < 0 then ((0 : Int32), σ) else (if (2048 : Int32) ≤ a1 then ((0 : Int32), σ) else (if (a1 - a1 / (8 : Int32) * (8 : Int32)) = 0 then xl_l ((fm_put (a1 + (0 : Int32)) (((((a2).toUInt64 >>> ((((8 : Int32) * (0 : Int32))).toInt64.toUInt64 &&& Int64.toUInt64 63)).toInt64)).toInt32) σ)) (fun s4 => xl_l ((fm_put (a1 + (1 : Int32)) (((((a2).toUInt64 >>> ((((8 : Int32) * (1 : Int32))).toInt64.toUInt64 &&& Int64.toUInt64 63)).toInt64)).toInt32) s4)) (fun s5 => xl_l ((fm_put (a1 + (2 : Int32)) (((((a2).toUInt64 >>> ((((8 : Int32) * (2 : Int32))).toInt64.toUInt64 &&& Int64.toUInt64 63)).toInt64)).toInt32) s5)) (fun s6 => xl_l ((fm_put (a1 + (3 : Int32)) (((((a2).toUInt64 >>> ((((8 : Int32) * (3 : Int32))).toInt64.toUInt64 &&& Int64.toUInt64 63)).toInt64)).toInt32) s6)) (fun s7 => xl_l ((fm_put (a1 + (4 : Int32)) (((((a2).toUInt64 >>> ((((8 : Int32) * (4 : Int32))).toInt64.toUInt64 &&& Int64.toUInt64 63)).toInt64)).toInt32) s7)) (fun s8 => xl_l ((fm_put (a1 + (5 : Int32)) (((((a2).toUInt64 >>> ((((8 : Int32) * (5 : Int32))).toInt64.toUInt64 &&& Int64.toUInt64 63)).toInt64)).toInt32) s8)) (fun s9 => xl_l ((fm_put (a1 + (6 : Int32)) (((((a2).toUInt64 >>> ((((8 : Int32) * (6 : Int32))).toInt64.toUInt64 &&& Int64.toUInt64 63)).toInt64)).toInt32) s9)) (fun s10 => xl_l ((fm_put (a1 + (7 : Int32)) (((((a2).toUInt64 >>> ((((8 : Int32) * (7 : Int32))).toInt64.toUInt64 &&& Int64.toUInt64 63)).toInt64)).toInt32) s10)) (fun s11 => ((1 : Int32), s11))))))))) else ((0 : Int32), σ))))
set_option maxRecDepth 100000 in
set_option maxHeartbeats 4000000 in
theorem mr_fill {l : Launch} {N n u : Nat} {a1 : Int32} {a2 : Int64} {σ : xs_S} (hl : l.stackTraces = false) (hn : 29 ≤ n) : xm_m (xk_k N) l tr_fill [.ref 1, .int a1, .long a2] (n, u, σ, xr_0) (xe_p ei_i n u (fr_fill a1 a2 σ)) := by
  refine xm_of hl ok_r_fill (Nat.le_of_ble_eq_true rfl) ?_
  show xw_w (xk_k N) l tr_fill 0 [some (.ref 1), some (.int a1), some (.long a2), none, none] [] (n, u, σ, xr_0) (xe_p ei_i n u (fr_fill a1 a2 σ))
  unfold fr_fill
  refine xw_iload1 dr_fill_0 ?_
  refine xw_if_lt' dr_fill_1 rfl (fun h1 => ?_) (fun h1 => ?_)
  · refine xw_iconst dr_fill_18 ki_0 ?_
    exact xw_zret dr_fill_19 rfl (by decide)
  · refine xw_iload1 dr_fill_4 ?_
    refine xw_sipush dr_fill_5 ks_2048 ?_
    refine xw_icmp_ge' dr_fill_8 rfl (fun h2 => ?_) (fun h2 => ?_)
    · refine xw_iconst dr_fill_18 ki_0 ?_
      exact xw_zret dr_fill_19 rfl (by decide)
    · refine xw_iload1 dr_fill_11 ?_
      refine xw_bipush dr_fill_12 kb_8 ?_
      refine xw_irem dr_fill_14 nz_8 ?_
      refine xw_if_eq' dr_fill_15 rfl (fun h3 => ?_) (fun h3 => ?_)
      · refine xw_iconst dr_fill_20 ki_0 ?_
        refine xw_istore4 dr_fill_21 (Nat.le_of_ble_eq_true rfl) rfl ?_
        refine xw_iload4 dr_fill_23 ?_
        refine xw_bipush dr_fill_25 kb_8 ?_
        refine xw_icmp_ge_f dr_fill_27 rfl (by decide) ?_
        refine xw_aload0 dr_fill_30 ?_
        refine xw_getR dr_fill_31 fl_r_31 (xl_n hn (by decide)) rfl r_1_3 ?_
        refine xw_iload1 dr_fill_34 ?_
        refine xw_iload4 dr_fill_35 ?_
        refine xw_iadd dr_fill_37 ?_
        refine xw_lload2 dr_fill_38 ?_
        refine xw_bipush dr_fill_39 kb_8 ?_
        refine xw_iload4 dr_fill_41 ?_
        refine xw_imul dr_fill_43 ?_
        refine xw_lushr dr_fill_44 ?_
        refine xw_l2i dr_fill_45 ?_
        refine xw_cW dr_fill_46 (lk_r_fill_46 (xl_n hn (by decide)) rfl) ok_m_put (mm_put hl hn (ad_nn h1 h2 (by decide))) ⟨Nat.le_of_ble_eq_true rfl, Nat.le_of_ble_eq_true rfl⟩ ?_
        refine xw_lw (fun s4 e_s4 => ?_)
        refine xw_iinc4 dr_fill_49 ic_0_1 (Nat.le_of_ble_eq_true rfl) rfl ?_
        refine xw_goto dr_fill_52 rfl ?_
        refine xw_iload4 dr_fill_23 ?_
        refine xw_bipush dr_fill_25 kb_8 ?_
        refine xw_icmp_ge_f dr_fill_27 rfl (by decide) ?_
        refine xw_aload0 dr_fill_30 ?_
        refine xw_getR dr_fill_31 fl_r_31 (xl_n hn (by decide)) rfl r_1_3 ?_
        refine xw_iload1 dr_fill_34 ?_
        refine xw_iload4 dr_fill_35 ?_
        refine xw_iadd dr_fill_37 ?_
        refine xw_lload2 dr_fill_38 ?_
        refine xw_bipush dr_fill_39 kb_8 ?_
        refine xw_iload4 dr_fill_41 ?_
        refine xw_imul dr_fill_43 ?_
        refine xw_lushr dr_fill_44 ?_
        refine xw_l2i dr_fill_45 ?_
        refine xw_cW dr_fill_46 (lk_r_fill_46 (xl_n hn (by decide)) rfl) ok_m_put (mm_put hl hn (ad_nn h1 h2 (by decide))) ⟨Nat.le_of_ble_eq_true rfl, Nat.le_of_ble_eq_true rfl⟩ ?_
        refine xw_lw (fun s5 e_s5 => ?_)
        refine xw_iinc4 dr_fill_49 ic_1_1 (Nat.le_of_ble_eq_true rfl) rfl ?_
        refine xw_goto dr_fill_52 rfl ?_
        refine xw_iload4 dr_fill_23 ?_
        refine xw_bipush dr_fill_25 kb_8 ?_
        refine xw_icmp_ge_f dr_fill_27 rfl (by decide) ?_
        refine xw_aload0 dr_fill_30 ?_
        refine xw_getR dr_fill_31 fl_r_31 (xl_n hn (by decide)) rfl r_1_3 ?_
        refine xw_iload1 dr_fill_34 ?_
        refine xw_iload4 dr_fill_35 ?_
        refine xw_iadd dr_fill_37 ?_
        refine xw_lload2 dr_fill_38 ?_
        refine xw_bipush dr_fill_39 kb_8 ?_
        refine xw_iload4 dr_fill_41 ?_
        refine xw_imul dr_fill_43 ?_
        refine xw_lushr dr_fill_44 ?_
        refine xw_l2i dr_fill_45 ?_
        refine xw_cW dr_fill_46 (lk_r_fill_46 (xl_n hn (by decide)) rfl) ok_m_put (mm_put hl hn (ad_nn h1 h2 (by decide))) ⟨Nat.le_of_ble_eq_true rfl, Nat.le_of_ble_eq_true rfl⟩ ?_
        refine xw_lw (fun s6 e_s6 => ?_)
        refine xw_iinc4 dr_fill_49 ic_2_1 (Nat.le_of_ble_eq_true rfl) rfl ?_
        refine xw_goto dr_fill_52 rfl ?_
        refine xw_iload4 dr_fill_23 ?_
        refine xw_bipush dr_fill_25 kb_8 ?_
        refine xw_icmp_ge_f dr_fill_27 rfl (by decide) ?_
        refine xw_aload0 dr_fill_30 ?_
        refine xw_getR dr_fill_31 fl_r_31 (xl_n hn (by decide)) rfl r_1_3 ?_
        refine xw_iload1 dr_fill_34 ?_
        refine xw_iload4 dr_fill_35 ?_
        refine xw_iadd dr_fill_37 ?_
        refine xw_lload2 dr_fill_38 ?_
        refine xw_bipush dr_fill_39 kb_8 ?_
        refine xw_iload4 dr_fill_41 ?_
        refine xw_imul dr_fill_43 ?_
        refine xw_lushr dr_fill_44 ?_
        refine xw_l2i dr_fill_45 ?_
        refine xw_cW dr_fill_46 (lk_r_fill_46 (xl_n hn (by decide)) rfl) ok_m_put (mm_put hl hn (ad_nn h1 h2 (by decide))) ⟨Nat.le_of_ble_eq_true rfl, Nat.le_of_ble_eq_true rfl⟩ ?_
        refine xw_lw (fun s7 e_s7 => ?_)
        refine xw_iinc4 dr_fill_49 ic_3_1 (Nat.le_of_ble_eq_true rfl) rfl ?_
        refine xw_goto dr_fill_52 rfl ?_
        refine xw_iload4 dr_fill_23 ?_
        refine xw_bipush dr_fill_25 kb_8 ?_
        refine xw_icmp_ge_f dr_fill_27 rfl (by decide) ?_
        refine xw_aload0 dr_fill_30 ?_
        refine xw_getR dr_fill_31 fl_r_31 (xl_n hn (by decide)) rfl r_1_3 ?_
        refine xw_iload1 dr_fill_34 ?_
        refine xw_iload4 dr_fill_35 ?_
        refine xw_iadd dr_fill_37 ?_
        refine xw_lload2 dr_fill_38 ?_
        refine xw_bipush dr_fill_39 kb_8 ?_
        refine xw_iload4 dr_fill_41 ?_
        refine xw_imul dr_fill_43 ?_
        refine xw_lushr dr_fill_44 ?_
        refine xw_l2i dr_fill_45 ?_
        refine xw_cW dr_fill_46 (lk_r_fill_46 (xl_n hn (by decide)) rfl) ok_m_put (mm_put hl hn (ad_nn h1 h2 (by decide))) ⟨Nat.le_of_ble_eq_true rfl, Nat.le_of_ble_eq_true rfl⟩ ?_
        refine xw_lw (fun s8 e_s8 => ?_)
        refine xw_iinc4 dr_fill_49 ic_4_1 (Nat.le_of_ble_eq_true rfl) rfl ?_
        refine xw_goto dr_fill_52 rfl ?_
        refine xw_iload4 dr_fill_23 ?_
        refine xw_bipush dr_fill_25 kb_8 ?_
        refine xw_icmp_ge_f dr_fill_27 rfl (by decide) ?_
        refine xw_aload0 dr_fill_30 ?_
        refine xw_getR dr_fill_31 fl_r_31 (xl_n hn (by decide)) rfl r_1_3 ?_
        refine xw_iload1 dr_fill_34 ?_
        refine xw_iload4 dr_fill_35 ?_
        refine xw_iadd dr_fill_37 ?_
        refine xw_lload2 dr_fill_38 ?_
        refine xw_bipush dr_fill_39 kb_8 ?_
        refine xw_iload4 dr_fill_41 ?_
        refine xw_imul dr_fill_43 ?_
        refine xw_lushr dr_fill_44 ?_
        refine xw_l2i dr_fill_45 ?_
        refine xw_cW dr_fill_46 (lk_r_fill_46 (xl_n hn (by decide)) rfl) ok_m_put (mm_put hl hn (ad_nn h1 h2 (by decide))) ⟨Nat.le_of_ble_eq_true rfl, Nat.le_of_ble_eq_true rfl⟩ ?_
        refine xw_lw (fun s9 e_s9 => ?_)
        refine xw_iinc4 dr_fill_49 ic_5_1 (Nat.le_of_ble_eq_true rfl) rfl ?_
        refine xw_goto dr_fill_52 rfl ?_
        refine xw_iload4 dr_fill_23 ?_
        refine xw_bipush dr_fill_25 kb_8 ?_
        refine xw_icmp_ge_f dr_fill_27 rfl (by decide) ?_
        refine xw_aload0 dr_fill_30 ?_
        refine xw_getR dr_fill_31 fl_r_31 (xl_n hn (by decide)) rfl r_1_3 ?_
        refine xw_iload1 dr_fill_34 ?_
        refine xw_iload4 dr_fill_35 ?_
        refine xw_iadd dr_fill_37 ?_
        refine xw_lload2 dr_fill_38 ?_
        refine xw_bipush dr_fill_39 kb_8 ?_
        refine xw_iload4 dr_fill_41 ?_
        refine xw_imul dr_fill_43 ?_
        refine xw_lushr dr_fill_44 ?_
        refine xw_l2i dr_fill_45 ?_
        refine xw_cW dr_fill_46 (lk_r_fill_46 (xl_n hn (by decide)) rfl) ok_m_put (mm_put hl hn (ad_nn h1 h2 (by decide))) ⟨Nat.le_of_ble_eq_true rfl, Nat.le_of_ble_eq_true rfl⟩ ?_
        refine xw_lw (fun s10 e_s10 => ?_)
        refine xw_iinc4 dr_fill_49 ic_6_1 (Nat.le_of_ble_eq_true rfl) rfl ?_
        refine xw_goto dr_fill_52 rfl ?_
        refine xw_iload4 dr_fill_23 ?_
        refine xw_bipush dr_fill_25 kb_8 ?_
        refine xw_icmp_ge_f dr_fill_27 rfl (by decide) ?_
        refine xw_aload0 dr_fill_30 ?_
        refine xw_getR dr_fill_31 fl_r_31 (xl_n hn (by decide)) rfl r_1_3 ?_
        refine xw_iload1 dr_fill_34 ?_
        refine xw_iload4 dr_fill_35 ?_
        refine xw_iadd dr_fill_37 ?_
        refine xw_lload2 dr_fill_38 ?_
        refine xw_bipush dr_fill_39 kb_8 ?_
        refine xw_iload4 dr_fill_41 ?_
        refine xw_imul dr_fill_43 ?_
        refine xw_lushr dr_fill_44 ?_
        refine xw_l2i dr_fill_45 ?_
        refine xw_cW dr_fill_46 (lk_r_fill_46 (xl_n hn (by decide)) rfl) ok_m_put (mm_put hl hn (ad_nn h1 h2 (by decide))) ⟨Nat.le_of_ble_eq_true rfl, Nat.le_of_ble_eq_true rfl⟩ ?_
        refine xw_lw (fun s11 e_s11 => ?_)
        refine xw_iinc4 dr_fill_49 ic_7_1 (Nat.le_of_ble_eq_true rfl) rfl ?_
        refine xw_goto dr_fill_52 rfl ?_
        refine xw_iload4 dr_fill_23 ?_
        refine xw_bipush dr_fill_25 kb_8 ?_
        refine xw_icmp_ge_t dr_fill_27 rfl (by decide) ?_
        refine xw_iconst dr_fill_55 ki_1 ?_
        exact xw_zret dr_fill_56 rfl (by decide)
      · refine xw_iconst dr_fill_18 ki_0 ?_
        exact xw_zret dr_fill_19 rfl (by decide)
theorem jr_fill {a1 : Int32} {a2 : Int64} {σ : xs_S} (hJ : jx_J σ) : jx_J (fr_fill a1 a2 σ).2 := by
  unfold fr_fill
  refine xj_f (fun h1 => ?_) (fun h1 => ?_)
  · exact hJ
  · refine xj_f (fun h2 => ?_) (fun h2 => ?_)
    · exact hJ
    · refine xj_f (fun h3 => ?_) (fun h3 => ?_)
      · refine xj_l (fun s4 e_s4 => ?_)
        have hJ_s4 : jx_J s4 := by rw [e_s4]; exact (jm_put hJ)
        refine xj_l (fun s5 e_s5 => ?_)
        have hJ_s5 : jx_J s5 := by rw [e_s5]; exact (jm_put hJ_s4)
        refine xj_l (fun s6 e_s6 => ?_)
        have hJ_s6 : jx_J s6 := by rw [e_s6]; exact (jm_put hJ_s5)
        refine xj_l (fun s7 e_s7 => ?_)
        have hJ_s7 : jx_J s7 := by rw [e_s7]; exact (jm_put hJ_s6)
        refine xj_l (fun s8 e_s8 => ?_)
        have hJ_s8 : jx_J s8 := by rw [e_s8]; exact (jm_put hJ_s7)
        refine xj_l (fun s9 e_s9 => ?_)
        have hJ_s9 : jx_J s9 := by rw [e_s9]; exact (jm_put hJ_s8)
        refine xj_l (fun s10 e_s10 => ?_)
        have hJ_s10 : jx_J s10 := by rw [e_s10]; exact (jm_put hJ_s9)
        refine xj_l (fun s11 e_s11 => ?_)
        have hJ_s11 : jx_J s11 := by rw [e_s11]; exact (jm_put hJ_s10)
        exact hJ_s11
      · exact hJ
def fr_tables (a1 : Int32) (a2 : Int32) (a3 : Int32) (σ : xs_S) : Int32 × xs_S := (if (σ 1 12) = 0 then (if a2 < 0 then ((0 : Int32), σ) else (if a2 ≤ (32 : Int32) then xl_l ((xu_u σ 1 9 (a1 &&& (4095 : Int32)))) (fun s4 => xl_l ((xu_u s4 1 10 a2)) (fun s5 => xl_l ((xu_u s5 1 11 (a3 &&& (4095 : Int32)))) (fun s6 => ((1 : Int32), s6)))) else ((0 : Int32), σ))) else ((0 : Int32), σ))
set_option maxRecDepth 100000 in
set_option maxHeartbeats 4000000 in
theorem mr_tables {l : Launch} {N n u : Nat} {a1 : Int32} {a2 : Int32} {a3 : Int32} {σ : xs_S} (hl : l.stackTraces = false) (hn : 29 ≤ n) : xm_m (xk_k N) l tr_tables [.ref 1, .int a1, .int a2, .int a3] (n, u, σ, xr_0) (xe_p ei_i n u (fr_tables a1 a2 a3 σ)) := by
  refine xm_of hl ok_r_tables (Nat.le_of_ble_eq_true rfl) ?_
  show xw_w (xk_k N) l tr_tables 0 [some (.ref 1), some (.int a1), some (.int a2), some (.int a3)] [] (n, u, σ, xr_0) (xe_p ei_i n u (fr_tables a1 a2 a3 σ))
  unfold fr_tables
  refine xw_aload0 dr_tables_0 ?_
  refine xw_getI dr_tables_1 fl_r_63 (by decide) (xl_n hn (by decide)) rfl ?_
  refine xw_if_ne' dr_tables_4 rfl (fun h1 => ?_) (fun h1 => ?_)
  · refine xw_iconst dr_tables_17 ki_0 ?_
    exact xw_zret dr_tables_18 rfl (by decide)
  · refine xw_iload2 dr_tables_7 ?_
    refine xw_if_lt' dr_tables_8 rfl (fun h2 => ?_) (fun h2 => ?_)
    · refine xw_iconst dr_tables_17 ki_0 ?_
      exact xw_zret dr_tables_18 rfl (by decide)
    · refine xw_iload2 dr_tables_11 ?_
      refine xw_bipush dr_tables_12 kb_32 ?_
      refine xw_icmp_le' dr_tables_14 rfl (fun h3 => ?_) (fun h3 => ?_)
      · refine xw_aload0 dr_tables_19 ?_
        refine xw_iload1 dr_tables_20 ?_
        refine xw_sipush dr_tables_21 ks_4095 ?_
        refine xw_iand dr_tables_24 ?_
        refine xw_putI dr_tables_25 fl_r_67 nf_4_9 (by decide) (xl_n hn (by decide)) rfl ?_
        refine xw_lw (fun s4 e_s4 => ?_)
        refine xw_aload0 dr_tables_28 ?_
        refine xw_iload2 dr_tables_29 ?_
        refine xw_putI dr_tables_30 fl_r_71 nf_4_10 (by decide) (xl_n hn (by decide)) rfl ?_
        refine xw_lw (fun s5 e_s5 => ?_)
        refine xw_aload0 dr_tables_33 ?_
        refine xw_iload3 dr_tables_34 ?_
        refine xw_sipush dr_tables_35 ks_4095 ?_
        refine xw_iand dr_tables_38 ?_
        refine xw_putI dr_tables_39 fl_r_74 nf_4_11 (by decide) (xl_n hn (by decide)) rfl ?_
        refine xw_lw (fun s6 e_s6 => ?_)
        refine xw_iconst dr_tables_42 ki_1 ?_
        exact xw_zret dr_tables_43 rfl (by decide)
      · refine xw_iconst dr_tables_17 ki_0 ?_
        exact xw_zret dr_tables_18 rfl (by decide)
theorem jr_tables {a1 : Int32} {a2 : Int32} {a3 : Int32} {σ : xs_S} (hJ : jx_J σ) : jx_J (fr_tables a1 a2 a3 σ).2 := by
  unfold fr_tables
  refine xj_f (fun h1 => ?_) (fun h1 => ?_)
  · refine xj_f (fun h2 => ?_) (fun h2 => ?_)
    · exact hJ
    · refine xj_f (fun h3 => ?_) (fun h3 => ?_)
      · refine xj_l (fun s4 e_s4 => ?_)
        have hJ_s4 : jx_J s4 := by rw [e_s4]; exact (jx_u hJ (by decide))
        refine xj_l (fun s5 e_s5 => ?_)
        have hJ_s5 : jx_J s5 := by rw [e_s5]; exact (jx_u hJ_s4 (by decide))
        refine xj_l (fun s6 e_s6 => ?_)
        have hJ_s6 : jx_J s6 := by rw [e_s6]; exact (jx_u hJ_s5 (by decide))
        exact hJ_s6
      · exact hJ
  · exact hJ
def fr_pages (a1 : Int32) (a2 : Int32) (σ : xs_S) : Int32 × xs_S := (if (σ 1 12) = 0 then xl_l ((xu_u σ 3 9 (a1 &&& (31 : Int32)))) (fun s2 => xl_l ((xu_u s2 11 3 (a2 &&& 1))) (fun s3 => ((1 : Int32), s3))) else ((0 : Int32), σ))
set_option maxRecDepth 100000 in
set_option maxHeartbeats 4000000 in
theorem mr_pages {l : Launch} {N n u : Nat} {a1 : Int32} {a2 : Int32} {σ : xs_S} (hl : l.stackTraces = false) (hn : 29 ≤ n) : xm_m (xk_k N) l tr_pages [.ref 1, .int a1, .int a2] (n, u, σ, xr_0) (xe_p ei_i n u (fr_pages a1 a2 σ)) := by
  refine xm_of hl ok_r_pages (Nat.le_of_ble_eq_true rfl) ?_
  show xw_w (xk_k N) l tr_pages 0 [some (.ref 1), some (.int a1), some (.int a2)] [] (n, u, σ, xr_0) (xe_p ei_i n u (fr_pages a1 a2 σ))
  unfold fr_pages
  refine xw_aload0 dr_pages_0 ?_
  refine xw_getI dr_pages_1 fl_r_63 (by decide) (xl_n hn (by decide)) rfl ?_
  refine xw_if_eq' dr_pages_4 rfl (fun h1 => ?_) (fun h1 => ?_)
  · refine xw_aload0 dr_pages_9 ?_
    refine xw_getR dr_pages_10 fl_r_19 (xl_n hn (by decide)) rfl r_1_1 ?_
    refine xw_iload1 dr_pages_13 ?_
    refine xw_bipush dr_pages_14 kb_31 ?_
    refine xw_iand dr_pages_16 ?_
    refine xw_putI dr_pages_17 fl_r_77 nf_3_9 (by decide) (xl_n hn (by decide)) rfl ?_
    refine xw_lw (fun s2 e_s2 => ?_)
    refine xw_aload0 dr_pages_20 ?_
    refine xw_getR dr_pages_21 fl_r_31 (xl_n hn (by decide)) rfl r_1_3 ?_
    refine xw_iload2 dr_pages_24 ?_
    refine xw_putZ dr_pages_25 fl_r_80 nf_2_3 (by decide) (xl_n hn (by decide)) rfl ?_
    refine xw_lw (fun s3 e_s3 => ?_)
    refine xw_iconst dr_pages_28 ki_1 ?_
    exact xw_zret dr_pages_29 rfl (by decide)
  · refine xw_iconst dr_pages_7 ki_0 ?_
    exact xw_zret dr_pages_8 rfl (by decide)
theorem jr_pages {a1 : Int32} {a2 : Int32} {σ : xs_S} (hJ : jx_J σ) : jx_J (fr_pages a1 a2 σ).2 := by
  unfold fr_pages
  refine xj_f (fun h1 => ?_) (fun h1 => ?_)
  · refine xj_l (fun s2 e_s2 => ?_)
    have hJ_s2 : jx_J s2 := by rw [e_s2]; exact (jx_p hJ)
    refine xj_l (fun s3 e_s3 => ?_)
    have hJ_s3 : jx_J s3 := by rw [e_s3]; exact (jx_u hJ_s2 (by decide))
    exact hJ_s3
  · exact hJ
def fd_copy (c : Nat) (a1 : Nat) (σ : xs_S) : xs_S := xl_l ((xu_u σ c 0 (σ a1 0))) (fun s1 => xl_l ((xu_u s1 c 1 (s1 a1 1))) (fun s2 => xl_l ((xu_u s2 c 2 (s2 a1 2))) (fun s3 => xl_l ((xu_u s3 c 3 (s3 a1 3))) (fun s4 => xl_l ((xu_u s4 c 4 (s4 a1 4))) (fun s5 => xl_l ((xu_u s5 c 5 (s5 a1 5))) (fun s6 => xl_l ((xu_u s6 c 6 ((s6 a1 6) &&& 1))) (fun s7 => s7)))))))
set_option maxRecDepth 100000 in
set_option maxHeartbeats 4000000 in
theorem md_copy {l : Launch} {N n u : Nat} {c : Nat} {a1 : Nat} {σ : xs_S} (hl : l.stackTraces = false) (hn : 29 ≤ n) (h0_c : 0 < c) (hi_c : c < n) (hk_c : xk_k N c = (0, 0)) (h0_a1 : 0 < a1) (hi_a1 : a1 < n) (hk_a1 : xk_k N a1 = (0, 0)) : xm_m (xk_k N) l td_copy [.ref c, .ref a1] (n, u, σ, xr_0) (xe_w n u (fd_copy c a1 σ)) := by
  refine xm_of hl ok_d_copy (Nat.le_of_ble_eq_true rfl) ?_
  show xw_w (xk_k N) l td_copy 0 [some (.ref c), some (.ref a1)] [] (n, u, σ, xr_0) (xe_w n u (fd_copy c a1 σ))
  unfold fd_copy
  refine xw_aload0 dd_copy_0 ?_
  refine xw_aload1 dd_copy_1 ?_
  refine xw_getI dd_copy_2 fl_d_9 (by decide) hi_a1 hk_a1 ?_
  refine xw_putI dd_copy_5 fl_d_9 nf_0_0 h0_c hi_c hk_c ?_
  refine xw_lw (fun s1 e_s1 => ?_)
  refine xw_aload0 dd_copy_8 ?_
  refine xw_aload1 dd_copy_9 ?_
  refine xw_getI dd_copy_10 fl_d_16 (by decide) hi_a1 hk_a1 ?_
  refine xw_putI dd_copy_13 fl_d_16 nf_0_1 h0_c hi_c hk_c ?_
  refine xw_lw (fun s2 e_s2 => ?_)
  refine xw_aload0 dd_copy_16 ?_
  refine xw_aload1 dd_copy_17 ?_
  refine xw_getI dd_copy_18 fl_d_19 (by decide) hi_a1 hk_a1 ?_
  refine xw_putI dd_copy_21 fl_d_19 nf_0_2 h0_c hi_c hk_c ?_
  refine xw_lw (fun s3 e_s3 => ?_)
  refine xw_aload0 dd_copy_24 ?_
  refine xw_aload1 dd_copy_25 ?_
  refine xw_getI dd_copy_26 fl_d_22 (by decide) hi_a1 hk_a1 ?_
  refine xw_putI dd_copy_29 fl_d_22 nf_0_3 h0_c hi_c hk_c ?_
  refine xw_lw (fun s4 e_s4 => ?_)
  refine xw_aload0 dd_copy_32 ?_
  refine xw_aload1 dd_copy_33 ?_
  refine xw_getI dd_copy_34 fl_d_25 (by decide) hi_a1 hk_a1 ?_
  refine xw_putI dd_copy_37 fl_d_25 nf_0_4 h0_c hi_c hk_c ?_
  refine xw_lw (fun s5 e_s5 => ?_)
  refine xw_aload0 dd_copy_40 ?_
  refine xw_aload1 dd_copy_41 ?_
  refine xw_getI dd_copy_42 fl_d_32 (by decide) hi_a1 hk_a1 ?_
  refine xw_putI dd_copy_45 fl_d_32 nf_0_5 h0_c hi_c hk_c ?_
  refine xw_lw (fun s6 e_s6 => ?_)
  refine xw_aload0 dd_copy_48 ?_
  refine xw_aload1 dd_copy_49 ?_
  refine xw_getI dd_copy_50 fl_d_28 (by decide) hi_a1 hk_a1 ?_
  refine xw_putZ dd_copy_53 fl_d_28 nf_0_6 h0_c hi_c hk_c ?_
  refine xw_lw (fun s7 e_s7 => ?_)
  exact xw_vret dd_copy_56 rfl
theorem jd_copy {c : Nat} {a1 : Nat} {σ : xs_S} (hc : 13 ≠ c) (hJ : jx_J σ) : jx_J (fd_copy c a1 σ) := by
  unfold fd_copy
  refine xj_wl (fun s1 e_s1 => ?_)
  have hJ_s1 : jx_J s1 := by rw [e_s1]; exact (jx_d hJ (by decide) (by decide))
  refine xj_wl (fun s2 e_s2 => ?_)
  have hJ_s2 : jx_J s2 := by rw [e_s2]; exact (jx_d hJ_s1 (by decide) (by decide))
  refine xj_wl (fun s3 e_s3 => ?_)
  have hJ_s3 : jx_J s3 := by rw [e_s3]; exact (jx_d hJ_s2 (by decide) (by decide))
  refine xj_wl (fun s4 e_s4 => ?_)
  have hJ_s4 : jx_J s4 := by rw [e_s4]; exact (jx_d hJ_s3 (by decide) (by decide))
  refine xj_wl (fun s5 e_s5 => ?_)
  have hJ_s5 : jx_J s5 := by rw [e_s5]; exact (jx_d hJ_s4 (by decide) (by decide))
  refine xj_wl (fun s6 e_s6 => ?_)
  have hJ_s6 : jx_J s6 := by rw [e_s6]; exact (jx_u hJ_s5 ⟨by simp, by simp, fun z => hc z.1⟩)
  refine xj_wl (fun s7 e_s7 => ?_)
  have hJ_s7 : jx_J s7 := by rw [e_s7]; exact (jx_d hJ_s6 (by decide) (by decide))
  exact hJ_s7
def fg_copy_3_7 (σ : xs_S) : xs_S := xl_l ((fd_copy 4 8 σ)) (fun s1 => xl_l ((fd_copy 5 9 s1)) (fun s2 => xl_l ((fd_copy 6 10 s2)) (fun s3 => xl_l ((xu_u s3 3 3 (s3 7 3))) (fun s4 => xl_l ((xu_u s4 3 4 (s4 7 4))) (fun s5 => xl_l ((xu_u s5 3 5 (s5 7 5))) (fun s6 => xl_l ((xu_u s6 3 6 (s6 7 6))) (fun s7 => xl_l ((xu_u s7 3 7 (s7 7 7))) (fun s8 => xl_l ((xu_u s8 3 8 (s8 7 8))) (fun s9 => xl_l ((xu_u s9 3 9 (s9 7 9))) (fun s10 => xl_l ((xu_u s10 3 10 (s10 7 10))) (fun s11 => s11)))))))))))
set_option maxRecDepth 100000 in
set_option maxHeartbeats 4000000 in
theorem mg_copy_3_7 {l : Launch} {N n u : Nat} {σ : xs_S} (hl : l.stackTraces = false) (hn : 29 ≤ n) : xm_m (xk_k N) l tg_copy [.ref 3, .ref 7] (n, u, σ, xr_0) (xe_w n u (fg_copy_3_7 σ)) := by
  refine xm_of hl ok_g_copy (Nat.le_of_ble_eq_true rfl) ?_
  show xw_w (xk_k N) l tg_copy 0 [some (.ref 3), some (.ref 7)] [] (n, u, σ, xr_0) (xe_w n u (fg_copy_3_7 σ))
  unfold fg_copy_3_7
  refine xw_aload0 dg_copy_0 ?_
  refine xw_getR dg_copy_1 fl_g_12 (xl_n hn (by decide)) rfl r_3_0 ?_
  refine xw_aload1 dg_copy_4 ?_
  refine xw_getR dg_copy_5 fl_g_12 (xl_n hn (by decide)) rfl r_7_0 ?_
  refine xw_cW dg_copy_8 (lk_g_copy_8 (xl_n hn (by decide)) rfl) ok_d_copy (md_copy hl hn (by decide) (xl_n hn (by decide)) rfl (by decide) (xl_n hn (by decide)) rfl) ⟨Nat.le_of_ble_eq_true rfl, Nat.le_of_ble_eq_true rfl⟩ ?_
  refine xw_lw (fun s1 e_s1 => ?_)
  refine xw_aload0 dg_copy_11 ?_
  refine xw_getR dg_copy_12 fl_g_18 (xl_n hn (by decide)) rfl r_3_1 ?_
  refine xw_aload1 dg_copy_15 ?_
  refine xw_getR dg_copy_16 fl_g_18 (xl_n hn (by decide)) rfl r_7_1 ?_
  refine xw_cW dg_copy_19 (lk_g_copy_19 (xl_n hn (by decide)) rfl) ok_d_copy (md_copy hl hn (by decide) (xl_n hn (by decide)) rfl (by decide) (xl_n hn (by decide)) rfl) ⟨Nat.le_of_ble_eq_true rfl, Nat.le_of_ble_eq_true rfl⟩ ?_
  refine xw_lw (fun s2 e_s2 => ?_)
  refine xw_aload0 dg_copy_22 ?_
  refine xw_getR dg_copy_23 fl_g_21 (xl_n hn (by decide)) rfl r_3_2 ?_
  refine xw_aload1 dg_copy_26 ?_
  refine xw_getR dg_copy_27 fl_g_21 (xl_n hn (by decide)) rfl r_7_2 ?_
  refine xw_cW dg_copy_30 (lk_g_copy_30 (xl_n hn (by decide)) rfl) ok_d_copy (md_copy hl hn (by decide) (xl_n hn (by decide)) rfl (by decide) (xl_n hn (by decide)) rfl) ⟨Nat.le_of_ble_eq_true rfl, Nat.le_of_ble_eq_true rfl⟩ ?_
  refine xw_lw (fun s3 e_s3 => ?_)
  refine xw_aload0 dg_copy_33 ?_
  refine xw_aload1 dg_copy_34 ?_
  refine xw_getI dg_copy_35 fl_g_28 (by decide) (xl_n hn (by decide)) rfl ?_
  refine xw_putI dg_copy_38 fl_g_28 nf_3_3 (by decide) (xl_n hn (by decide)) rfl ?_
  refine xw_lw (fun s4 e_s4 => ?_)
  refine xw_aload0 dg_copy_41 ?_
  refine xw_aload1 dg_copy_42 ?_
  refine xw_getI dg_copy_43 fl_g_39 (by decide) (xl_n hn (by decide)) rfl ?_
  refine xw_putI dg_copy_46 fl_g_39 nf_3_4 (by decide) (xl_n hn (by decide)) rfl ?_
  refine xw_lw (fun s5 e_s5 => ?_)
  refine xw_aload0 dg_copy_49 ?_
  refine xw_aload1 dg_copy_50 ?_
  refine xw_getI dg_copy_51 fl_g_42 (by decide) (xl_n hn (by decide)) rfl ?_
  refine xw_putI dg_copy_54 fl_g_42 nf_3_5 (by decide) (xl_n hn (by decide)) rfl ?_
  refine xw_lw (fun s6 e_s6 => ?_)
  refine xw_aload0 dg_copy_57 ?_
  refine xw_aload1 dg_copy_58 ?_
  refine xw_getI dg_copy_59 fl_g_45 (by decide) (xl_n hn (by decide)) rfl ?_
  refine xw_putI dg_copy_62 fl_g_45 nf_3_6 (by decide) (xl_n hn (by decide)) rfl ?_
  refine xw_lw (fun s7 e_s7 => ?_)
  refine xw_aload0 dg_copy_65 ?_
  refine xw_aload1 dg_copy_66 ?_
  refine xw_getI dg_copy_67 fl_g_48 (by decide) (xl_n hn (by decide)) rfl ?_
  refine xw_putI dg_copy_70 fl_g_48 nf_3_7 (by decide) (xl_n hn (by decide)) rfl ?_
  refine xw_lw (fun s8 e_s8 => ?_)
  refine xw_aload0 dg_copy_73 ?_
  refine xw_aload1 dg_copy_74 ?_
  refine xw_getI dg_copy_75 fl_g_32 (by decide) (xl_n hn (by decide)) rfl ?_
  refine xw_putI dg_copy_78 fl_g_32 nf_3_8 (by decide) (xl_n hn (by decide)) rfl ?_
  refine xw_lw (fun s9 e_s9 => ?_)
  refine xw_aload0 dg_copy_81 ?_
  refine xw_aload1 dg_copy_82 ?_
  refine xw_getI dg_copy_83 fl_g_51 (by decide) (xl_n hn (by decide)) rfl ?_
  refine xw_putI dg_copy_86 fl_g_51 nf_3_9 (by decide) (xl_n hn (by decide)) rfl ?_
  refine xw_lw (fun s10 e_s10 => ?_)
  refine xw_aload0 dg_copy_89 ?_
  refine xw_aload1 dg_copy_90 ?_
  refine xw_getI dg_copy_91 fl_g_54 (by decide) (xl_n hn (by decide)) rfl ?_
  refine xw_putI dg_copy_94 fl_g_54 nf_3_10 (by decide) (xl_n hn (by decide)) rfl ?_
  refine xw_lw (fun s11 e_s11 => ?_)
  exact xw_vret dg_copy_97 rfl
theorem jg_copy_3_7 {σ : xs_S} (hJ : jx_J σ) : jx_J (fg_copy_3_7 σ) := by
  unfold fg_copy_3_7
  refine xj_wl (fun s1 e_s1 => ?_)
  have hJ_s1 : jx_J s1 := by rw [e_s1]; exact (jd_copy (by decide) hJ)
  refine xj_wl (fun s2 e_s2 => ?_)
  have hJ_s2 : jx_J s2 := by rw [e_s2]; exact (jd_copy (by decide) hJ_s1)
  refine xj_wl (fun s3 e_s3 => ?_)
  have hJ_s3 : jx_J s3 := by rw [e_s3]; exact (jd_copy (by decide) hJ_s2)
  refine xj_wl (fun s4 e_s4 => ?_)
  have hJ_s4 : jx_J s4 := by rw [e_s4]; exact (jx_u hJ_s3 (by decide))
  refine xj_wl (fun s5 e_s5 => ?_)
  have hJ_s5 : jx_J s5 := by rw [e_s5]; exact (jx_u hJ_s4 (by decide))
  refine xj_wl (fun s6 e_s6 => ?_)
  have hJ_s6 : jx_J s6 := by rw [e_s6]; exact (jx_u hJ_s5 (by decide))
  refine xj_wl (fun s7 e_s7 => ?_)
  have hJ_s7 : jx_J s7 := by rw [e_s7]; exact (jx_u hJ_s6 (by decide))
  refine xj_wl (fun s8 e_s8 => ?_)
  have hJ_s8 : jx_J s8 := by rw [e_s8]; exact (jx_u hJ_s7 (by decide))
  refine xj_wl (fun s9 e_s9 => ?_)
  have hJ_s9 : jx_J s9 := by rw [e_s9]; exact (jx_u hJ_s8 (by decide))
  refine xj_wl (fun s10 e_s10 => ?_)
  have hJ_s10 : jx_J s10 := by rw [e_s10]; exact (jx_37 hJ_s9)
  refine xj_wl (fun s11 e_s11 => ?_)
  have hJ_s11 : jx_J s11 := by rw [e_s11]; exact (jx_u hJ_s10 (by decide))
  exact hJ_s11
def fg_copy_7_3 (σ : xs_S) : xs_S := xl_l ((fd_copy 8 4 σ)) (fun s1 => xl_l ((fd_copy 9 5 s1)) (fun s2 => xl_l ((fd_copy 10 6 s2)) (fun s3 => xl_l ((xu_u s3 7 3 (s3 3 3))) (fun s4 => xl_l ((xu_u s4 7 4 (s4 3 4))) (fun s5 => xl_l ((xu_u s5 7 5 (s5 3 5))) (fun s6 => xl_l ((xu_u s6 7 6 (s6 3 6))) (fun s7 => xl_l ((xu_u s7 7 7 (s7 3 7))) (fun s8 => xl_l ((xu_u s8 7 8 (s8 3 8))) (fun s9 => xl_l ((xu_u s9 7 9 (s9 3 9))) (fun s10 => xl_l ((xu_u s10 7 10 (s10 3 10))) (fun s11 => s11)))))))))))
set_option maxRecDepth 100000 in
set_option maxHeartbeats 4000000 in
theorem mg_copy_7_3 {l : Launch} {N n u : Nat} {σ : xs_S} (hl : l.stackTraces = false) (hn : 29 ≤ n) : xm_m (xk_k N) l tg_copy [.ref 7, .ref 3] (n, u, σ, xr_0) (xe_w n u (fg_copy_7_3 σ)) := by
  refine xm_of hl ok_g_copy (Nat.le_of_ble_eq_true rfl) ?_
  show xw_w (xk_k N) l tg_copy 0 [some (.ref 7), some (.ref 3)] [] (n, u, σ, xr_0) (xe_w n u (fg_copy_7_3 σ))
  unfold fg_copy_7_3
  refine xw_aload0 dg_copy_0 ?_
  refine xw_getR dg_copy_1 fl_g_12 (xl_n hn (by decide)) rfl r_7_0 ?_
  refine xw_aload1 dg_copy_4 ?_
  refine xw_getR dg_copy_5 fl_g_12 (xl_n hn (by decide)) rfl r_3_0 ?_
  refine xw_cW dg_copy_8 (lk_g_copy_8 (xl_n hn (by decide)) rfl) ok_d_copy (md_copy hl hn (by decide) (xl_n hn (by decide)) rfl (by decide) (xl_n hn (by decide)) rfl) ⟨Nat.le_of_ble_eq_true rfl, Nat.le_of_ble_eq_true rfl⟩ ?_
  refine xw_lw (fun s1 e_s1 => ?_)
  refine xw_aload0 dg_copy_11 ?_
  refine xw_getR dg_copy_12 fl_g_18 (xl_n hn (by decide)) rfl r_7_1 ?_
  refine xw_aload1 dg_copy_15 ?_
  refine xw_getR dg_copy_16 fl_g_18 (xl_n hn (by decide)) rfl r_3_1 ?_
  refine xw_cW dg_copy_19 (lk_g_copy_19 (xl_n hn (by decide)) rfl) ok_d_copy (md_copy hl hn (by decide) (xl_n hn (by decide)) rfl (by decide) (xl_n hn (by decide)) rfl) ⟨Nat.le_of_ble_eq_true rfl, Nat.le_of_ble_eq_true rfl⟩ ?_
  refine xw_lw (fun s2 e_s2 => ?_)
  refine xw_aload0 dg_copy_22 ?_
  refine xw_getR dg_copy_23 fl_g_21 (xl_n hn (by decide)) rfl r_7_2 ?_
  refine xw_aload1 dg_copy_26 ?_
  refine xw_getR dg_copy_27 fl_g_21 (xl_n hn (by decide)) rfl r_3_2 ?_
  refine xw_cW dg_copy_30 (lk_g_copy_30 (xl_n hn (by decide)) rfl) ok_d_copy (md_copy hl hn (by decide) (xl_n hn (by decide)) rfl (by decide) (xl_n hn (by decide)) rfl) ⟨Nat.le_of_ble_eq_true rfl, Nat.le_of_ble_eq_true rfl⟩ ?_
  refine xw_lw (fun s3 e_s3 => ?_)
  refine xw_aload0 dg_copy_33 ?_
  refine xw_aload1 dg_copy_34 ?_
  refine xw_getI dg_copy_35 fl_g_28 (by decide) (xl_n hn (by decide)) rfl ?_
  refine xw_putI dg_copy_38 fl_g_28 nf_3_3 (by decide) (xl_n hn (by decide)) rfl ?_
  refine xw_lw (fun s4 e_s4 => ?_)
  refine xw_aload0 dg_copy_41 ?_
  refine xw_aload1 dg_copy_42 ?_
  refine xw_getI dg_copy_43 fl_g_39 (by decide) (xl_n hn (by decide)) rfl ?_
  refine xw_putI dg_copy_46 fl_g_39 nf_3_4 (by decide) (xl_n hn (by decide)) rfl ?_
  refine xw_lw (fun s5 e_s5 => ?_)
  refine xw_aload0 dg_copy_49 ?_
  refine xw_aload1 dg_copy_50 ?_
  refine xw_getI dg_copy_51 fl_g_42 (by decide) (xl_n hn (by decide)) rfl ?_
  refine xw_putI dg_copy_54 fl_g_42 nf_3_5 (by decide) (xl_n hn (by decide)) rfl ?_
  refine xw_lw (fun s6 e_s6 => ?_)
  refine xw_aload0 dg_copy_57 ?_
  refine xw_aload1 dg_copy_58 ?_
  refine xw_getI dg_copy_59 fl_g_45 (by decide) (xl_n hn (by decide)) rfl ?_
  refine xw_putI dg_copy_62 fl_g_45 nf_3_6 (by decide) (xl_n hn (by decide)) rfl ?_
  refine xw_lw (fun s7 e_s7 => ?_)
  refine xw_aload0 dg_copy_65 ?_
  refine xw_aload1 dg_copy_66 ?_
  refine xw_getI dg_copy_67 fl_g_48 (by decide) (xl_n hn (by decide)) rfl ?_
  refine xw_putI dg_copy_70 fl_g_48 nf_3_7 (by decide) (xl_n hn (by decide)) rfl ?_
  refine xw_lw (fun s8 e_s8 => ?_)
  refine xw_aload0 dg_copy_73 ?_
  refine xw_aload1 dg_copy_74 ?_
  refine xw_getI dg_copy_75 fl_g_32 (by decide) (xl_n hn (by decide)) rfl ?_
  refine xw_putI dg_copy_78 fl_g_32 nf_3_8 (by decide) (xl_n hn (by decide)) rfl ?_
  refine xw_lw (fun s9 e_s9 => ?_)
  refine xw_aload0 dg_copy_81 ?_
  refine xw_aload1 dg_copy_82 ?_
  refine xw_getI dg_copy_83 fl_g_51 (by decide) (xl_n hn (by decide)) rfl ?_
  refine xw_putI dg_copy_86 fl_g_51 nf_3_9 (by decide) (xl_n hn (by decide)) rfl ?_
  refine xw_lw (fun s10 e_s10 => ?_)
  refine xw_aload0 dg_copy_89 ?_
  refine xw_aload1 dg_copy_90 ?_
  refine xw_getI dg_copy_91 fl_g_54 (by decide) (xl_n hn (by decide)) rfl ?_
  refine xw_putI dg_copy_94 fl_g_54 nf_3_10 (by decide) (xl_n hn (by decide)) rfl ?_
  refine xw_lw (fun s11 e_s11 => ?_)
  exact xw_vret dg_copy_97 rfl
theorem jg_copy_7_3 {σ : xs_S} (hJ : jx_J σ) : jx_J (fg_copy_7_3 σ) := by
  unfold fg_copy_7_3
  refine xj_wl (fun s1 e_s1 => ?_)
  have hJ_s1 : jx_J s1 := by rw [e_s1]; exact (jd_copy (by decide) hJ)
  refine xj_wl (fun s2 e_s2 => ?_)
  have hJ_s2 : jx_J s2 := by rw [e_s2]; exact (jd_copy (by decide) hJ_s1)
  refine xj_wl (fun s3 e_s3 => ?_)
  have hJ_s3 : jx_J s3 := by rw [e_s3]; exact (jd_copy (by decide) hJ_s2)
  refine xj_wl (fun s4 e_s4 => ?_)
  have hJ_s4 : jx_J s4 := by rw [e_s4]; exact (jx_u hJ_s3 (by decide))
  refine xj_wl (fun s5 e_s5 => ?_)
  have hJ_s5 : jx_J s5 := by rw [e_s5]; exact (jx_u hJ_s4 (by decide))
  refine xj_wl (fun s6 e_s6 => ?_)
  have hJ_s6 : jx_J s6 := by rw [e_s6]; exact (jx_u hJ_s5 (by decide))
  refine xj_wl (fun s7 e_s7 => ?_)
  have hJ_s7 : jx_J s7 := by rw [e_s7]; exact (jx_u hJ_s6 (by decide))
  refine xj_wl (fun s8 e_s8 => ?_)
  have hJ_s8 : jx_J s8 := by rw [e_s8]; exact (jx_u hJ_s7 (by decide))
  refine xj_wl (fun s9 e_s9 => ?_)
  have hJ_s9 : jx_J s9 := by rw [e_s9]; exact (jx_u hJ_s8 (by decide))
  refine xj_wl (fun s10 e_s10 => ?_)
  have hJ_s10 : jx_J s10 := by rw [e_s10]; exact (jx_73 hJ_s9)
  refine xj_wl (fun s11 e_s11 => ?_)
  have hJ_s11 : jx_J s11 := by rw [e_s11]; exact (jx_u hJ_s10 (by decide))
  exact hJ_s11
def fr_codeOf (a1 : Int32) (σ : xs_S) : Int32 := (a1 &&& (-4 : Int32))
set_option maxRecDepth 100000 in
set_option maxHeartbeats 4000000 in
theorem mr_codeOf {l : Launch} {N n u : Nat} {a1 : Int32} {σ : xs_S} (hl : l.stackTraces = false) (hn : 29 ≤ n) : xm_m (xk_k N) l tr_codeOf [.int a1] (n, u, σ, xr_0) (xe_v ei_i n u σ (fr_codeOf a1 σ)) := by
  refine xm_of hl ok_r_codeOf (Nat.le_of_ble_eq_true rfl) ?_
  show xw_w (xk_k N) l tr_codeOf 0 [some (.int a1)] [] (n, u, σ, xr_0) (xe_v ei_i n u σ (fr_codeOf a1 σ))
  unfold fr_codeOf
  refine xw_iload0 dr_codeOf_0 ?_
  refine xw_bipush dr_codeOf_1 kb_m4 ?_
  refine xw_iand dr_codeOf_3 ?_
  exact xw_iret dr_codeOf_4 rfl
def fr_isNull (a1 : Int32) (σ : xs_S) : Int32 := (if (a1 >>> ((2 : Int32) &&& 31)) = 0 then (1 : Int32) else (0 : Int32))
set_option maxRecDepth 100000 in
set_option maxHeartbeats 4000000 in
theorem mr_isNull {l : Launch} {N n u : Nat} {a1 : Int32} {σ : xs_S} (hl : l.stackTraces = false) (hn : 29 ≤ n) : xm_m (xk_k N) l tr_isNull [.int a1] (n, u, σ, xr_0) (xe_v ei_i n u σ (fr_isNull a1 σ)) := by
  refine xm_of hl ok_r_isNull (Nat.le_of_ble_eq_true rfl) ?_
  show xw_w (xk_k N) l tr_isNull 0 [some (.int a1)] [] (n, u, σ, xr_0) (xe_v ei_i n u σ (fr_isNull a1 σ))
  unfold fr_isNull
  refine xw_iload0 dr_isNull_0 ?_
  refine xw_iconst dr_isNull_1 ki_2 ?_
  refine xw_ishr dr_isNull_2 ?_
  refine xw_if_ne' dr_isNull_3 rfl (fun h1 => ?_) (fun h1 => ?_)
  · refine xw_iconst dr_isNull_10 ki_0 ?_
    exact xw_zret dr_isNull_11 rfl (by decide)
  · refine xw_iconst dr_isNull_6 ki_1 ?_
    refine xw_goto dr_isNull_7 rfl ?_
    exact xw_zret dr_isNull_11 rfl (by decide)
def fx_refuse (a1 : Int32) (a2 : Int32) (a3 : Int32) (σ : xs_S) : xp_P Unit := (if a1 = 0 then (some (), σ) else xl_l ((xu_u σ 2 0 a2)) (fun s2 => xl_l ((xu_u s2 2 1 a3)) (fun s3 => (none, s3))))
set_option maxRecDepth 100000 in
set_option maxHeartbeats 4000000 in
theorem mx_refuse {l : Launch} {N n u : Nat} {a1 : Int32} {a2 : Int32} {a3 : Int32} {σ : xs_S} (hl : l.stackTraces = false) (hn : 29 ≤ n) : xm_m (xk_k N) l tx_refuse [.ref 2, .int a1, .int a2, .int a3] (n, u, σ, xr_0) (xe_t eu_u n u (fx_refuse a1 a2 a3 σ)) := by
  refine xm_of hl ok_x_refuse (Nat.le_of_ble_eq_true rfl) ?_
  show xw_w (xk_k N) l tx_refuse 0 [some (.ref 2), some (.int a1), some (.int a2), some (.int a3)] [] (n, u, σ, xr_0) (xe_t eu_u n u (fx_refuse a1 a2 a3 σ))
  unfold fx_refuse
  refine xw_iload1 dx_refuse_0 ?_
  refine xw_if_eq' dx_refuse_1 rfl (fun h1 => ?_) (fun h1 => ?_)
  · exact xw_vret dx_refuse_22 rfl
  · refine xw_aload0 dx_refuse_4 ?_
    refine xw_iload2 dx_refuse_5 ?_
    refine xw_putI dx_refuse_6 fl_x_7 nf_1_0 (by decide) (xl_n hn (by decide)) rfl ?_
    refine xw_lw (fun s2 e_s2 => ?_)
    refine xw_aload0 dx_refuse_9 ?_
    refine xw_iload3 dx_refuse_10 ?_
    refine xw_putI dx_refuse_11 fl_x_13 nf_1_1 (by decide) (xl_n hn (by decide)) rfl ?_
    refine xw_lw (fun s3 e_s3 => ?_)
    exact xw_thr dx_refuse_14 dx_refuse_17 dx_refuse_18 dx_refuse_21 xt_a xt_b xt_c xt_d rfl (by rw [xk_e hn]; decide) (by decide)
theorem jx_refuse {a1 : Int32} {a2 : Int32} {a3 : Int32} {σ : xs_S} (hJ : jx_J σ) : jx_J (fx_refuse a1 a2 a3 σ).2 := by
  unfold fx_refuse
  refine xj_f (fun h1 => ?_) (fun h1 => ?_)
  · exact hJ
  · refine xj_l (fun s2 e_s2 => ?_)
    have hJ_s2 : jx_J s2 := by rw [e_s2]; exact (jx_u hJ (by decide))
    refine xj_l (fun s3 e_s3 => ?_)
    have hJ_s3 : jx_J s3 := by rw [e_s3]; exact (jx_u hJ_s2 (by decide))
    exact hJ_s3
def fm_frameAt (a1 : Int32) (σ : xs_S) : Int32 := ((σ 12 ((a1 + (1 : Int32))).toNatClampNeg) &&& (31 : Int32))
set_option maxRecDepth 100000 in
set_option maxHeartbeats 4000000 in
theorem mm_frameAt {l : Launch} {N n u : Nat} {a1 : Int32} {σ : xs_S} (hl : l.stackTraces = false) (hn : 29 ≤ n) (hp1 : vp_in (a1 + (1 : Int32)) 2048) : xm_m (xk_k N) l tm_frameAt [.ref 11, .int a1] (n, u, σ, xr_0) (xe_v ei_i n u σ (fm_frameAt a1 σ)) := by
  refine xm_of hl ok_m_frameAt (Nat.le_of_ble_eq_true rfl) ?_
  show xw_w (xk_k N) l tm_frameAt 0 [some (.ref 11), some (.int a1)] [] (n, u, σ, xr_0) (xe_v ei_i n u σ (fm_frameAt a1 σ))
  unfold fm_frameAt
  refine xw_aload0 dm_frameAt_0 ?_
  refine xw_getR dm_frameAt_1 fl_m_19 (xl_n hn (by decide)) rfl r_11_2 ?_
  refine xw_iload1 dm_frameAt_4 ?_
  refine xw_iconst dm_frameAt_5 ki_1 ?_
  refine xw_iadd dm_frameAt_6 ?_
  refine xw_iald dm_frameAt_7 (xl_n hn (by decide)) rfl hp1 rfl ?_
  refine xw_bipush dm_frameAt_8 kb_31 ?_
  refine xw_iand dm_frameAt_10 ?_
  exact xw_iret dm_frameAt_11 rfl
def fm_locate (a1 : Int32) (a2 : Int32) (a3 : Int32) (σ : xs_S) : xp_P Int32 := xl_l ((a1 &&& (4095 : Int32))) (fun v1 => (if (σ 11 3) = 0 then (some v1, σ) else xl_l ((v1 / (64 : Int32))) (fun v3 => xl_l ((((64 : Int32) * (σ 3 9)) + ((2 : Int32) * (v3 / (16 : Int32))))) (fun v4 => xl_l ((((64 : Int32) * (fm_frameAt v4 σ)) + ((2 : Int32) * (v3 - v3 / (16 : Int32) * (16 : Int32))))) (fun v5 => xl_l (((σ 12 (v4).toNatClampNeg) &&& (σ 12 (v5).toNatClampNeg))) (fun v6 => xl_l ((if a3 = 0 then (4 : Int32) else (6 : Int32))) (fun v7 => xl_l ((if (v6 &&& (1 : Int32)) = 0 then (1 : Int32) else (0 : Int32))) (fun v8 => xl_l ((if a2 = (3 : Int32) then (if (v6 &&& v7) = v7 then (0 : Int32) else (1 : Int32)) else (0 : Int32))) (fun v9 => xl_l ((if v8 = 0 then (if v9 = 0 then σ else (xu_u σ 2 2 v1)) else (xu_u σ 2 2 v1))) (fun s10 => xl_l (((if a3 = 0 then (0 : Int32) else (2 : Int32)) + (if a2 = (3 : Int32) then (4 : Int32) else (0 : Int32)))) (fun v11 => xp_b (fx_refuse v8 (14 : Int32) v11 s10) (fun b12 s13 => xp_b (fx_refuse v9 (14 : Int32) (v11 + (1 : Int32)) s13) (fun b14 s15 => xl_l ((xu_u s15 12 (v4).toNatClampNeg ((s15 12 (v4).toNatClampNeg) ||| (32 : Int32)))) (fun s16 => xl_l ((xu_u s16 12 (v5).toNatClampNeg ((s16 12 (v5).toNatClampNeg) ||| (if a3 = 0 then (32 : Int32) else (96 : Int32))))) (fun s17 => (some (((64 : Int32) * (fm_frameAt v5 s17)) + (v1 - v1 / (64 : Int32) * (64 : Int32))), s17))))))))))))))))
set_option maxRecDepth 100000 in
set_option maxHeartbeats 4000000 in
theorem mm_locate {l : Launch} {N n u : Nat} {a1 : Int32} {a2 : Int32} {a3 : Int32} {σ : xs_S} (hl : l.stackTraces = false) (hn : 29 ≤ n) (hJ : jx_J σ) : xm_m (xk_k N) l tm_locate [.ref 11, .int a1, .int a2, .int a3] (n, u, σ, xr_0) (xe_t ei_i n u (fm_locate a1 a2 a3 σ)) := by
  refine xm_of hl ok_m_locate (Nat.le_of_ble_eq_true rfl) ?_
  show xw_w (xk_k N) l tm_locate 0 [some (.ref 11), some (.int a1), some (.int a2), some (.int a3), none, none, none, none, none, none, none, none, none] [] (n, u, σ, xr_0) (xe_t ei_i n u (fm_locate a1 a2 a3 σ))
  unfold fm_locate
  refine xw_iload1 dm_locate_0 ?_
  refine xw_sipush dm_locate_1 ks_4095 ?_
  refine xw_iand dm_locate_4 ?_
  refine xw_li (fun v1 e_v1 => ?_)
  refine xw_istore4 dm_locate_5 (Nat.le_of_ble_eq_true rfl) rfl ?_
  refine xw_aload0 dm_locate_7 ?_
  refine xw_getI dm_locate_8 fl_m_23 (by decide) (xl_n hn (by decide)) rfl ?_
  refine xw_if_ne' dm_locate_11 rfl (fun h2 => ?_) (fun h2 => ?_)
  · refine xw_iload4 dm_locate_17 ?_
    refine xw_bipush dm_locate_19 kb_64 ?_
    refine xw_idiv dm_locate_21 nz_64 ?_
    refine xw_li (fun v3 e_v3 => ?_)
    refine xw_istore5 dm_locate_22 (Nat.le_of_ble_eq_true rfl) rfl ?_
    refine xw_bipush dm_locate_24 kb_64 ?_
    refine xw_aload0 dm_locate_26 ?_
    refine xw_getR dm_locate_27 fl_m_15 (xl_n hn (by decide)) rfl r_11_1 ?_
    refine xw_getI dm_locate_30 fl_m_27 (by decide) (xl_n hn (by decide)) rfl ?_
    refine xw_imul dm_locate_33 ?_
    refine xw_iconst dm_locate_34 ki_2 ?_
    refine xw_iload5 dm_locate_35 ?_
    refine xw_bipush dm_locate_37 kb_16 ?_
    refine xw_idiv dm_locate_39 nz_16 ?_
    refine xw_imul dm_locate_40 ?_
    refine xw_iadd dm_locate_41 ?_
    refine xw_li (fun v4 e_v4 => ?_)
    refine xw_istore6 dm_locate_42 (Nat.le_of_ble_eq_true rfl) rfl ?_
    refine xw_bipush dm_locate_44 kb_64 ?_
    refine xw_aload0 dm_locate_46 ?_
    refine xw_iload6 dm_locate_47 ?_
    refine xw_cVi dm_locate_49 (lk_m_locate_49 (xl_n hn (by decide)) rfl) ok_m_frameAt (mm_frameAt hl hn ((lo_up hJ.1 e_v1 e_v3 e_v4).2)) ⟨Nat.le_of_ble_eq_true rfl, Nat.le_of_ble_eq_true rfl⟩ ?_
    refine xw_imul dm_locate_52 ?_
    refine xw_iconst dm_locate_53 ki_2 ?_
    refine xw_iload5 dm_locate_54 ?_
    refine xw_bipush dm_locate_56 kb_16 ?_
    refine xw_irem dm_locate_58 nz_16 ?_
    refine xw_imul dm_locate_59 ?_
    refine xw_iadd dm_locate_60 ?_
    refine xw_li (fun v5 e_v5 => ?_)
    refine xw_istore7 dm_locate_61 (Nat.le_of_ble_eq_true rfl) rfl ?_
    refine xw_aload0 dm_locate_63 ?_
    refine xw_getR dm_locate_64 fl_m_19 (xl_n hn (by decide)) rfl r_11_2 ?_
    refine xw_iload6 dm_locate_67 ?_
    refine xw_iald dm_locate_69 (xl_n hn (by decide)) rfl ((lo_up hJ.1 e_v1 e_v3 e_v4).1) rfl ?_
    refine xw_aload0 dm_locate_70 ?_
    refine xw_getR dm_locate_71 fl_m_19 (xl_n hn (by decide)) rfl r_11_2 ?_
    refine xw_iload7 dm_locate_74 ?_
    refine xw_iald dm_locate_76 (xl_n hn (by decide)) rfl ((lo_dn e_v1 e_v3 e_v5).1) rfl ?_
    refine xw_iand dm_locate_77 ?_
    refine xw_li (fun v6 e_v6 => ?_)
    refine xw_istore8 dm_locate_78 (Nat.le_of_ble_eq_true rfl) rfl ?_
    refine xw_iload3 dm_locate_80 ?_
    refine xw_if_eq_mi (J := 90) (a := (4 : Int32)) (b := (6 : Int32)) dm_locate_81 rfl (fun _ E' k' => ?_) (fun _ E' k' => ?_) ?_
    · refine xw_iconst dm_locate_89 ki_4 ?_
      exact k'
    · refine xw_bipush dm_locate_84 kb_6 ?_
      refine xw_goto dm_locate_86 rfl ?_
      exact k'
    refine xw_li (fun v7 e_v7 => ?_)
    refine xw_istore9 dm_locate_90 (Nat.le_of_ble_eq_true rfl) rfl ?_
    refine xw_iload8 dm_locate_92 ?_
    refine xw_iconst dm_locate_94 ki_1 ?_
    refine xw_iand dm_locate_95 ?_
    refine xw_if_ne_mi (J := 104) (a := (1 : Int32)) (b := (0 : Int32)) dm_locate_96 rfl (fun _ E' k' => ?_) (fun _ E' k' => ?_) ?_
    · refine xw_iconst dm_locate_103 ki_0 ?_
      exact k'
    · refine xw_iconst dm_locate_99 ki_1 ?_
      refine xw_goto dm_locate_100 rfl ?_
      exact k'
    refine xw_li (fun v8 e_v8 => ?_)
    refine xw_istore10 dm_locate_104 (Nat.le_of_ble_eq_true rfl) rfl ?_
    refine xw_iload2 dm_locate_106 ?_
    refine xw_iconst dm_locate_107 ki_3 ?_
    refine xw_icmp_ne_mi (J := 126) (a := (if (v6 &&& v7) = v7 then (0 : Int32) else (1 : Int32))) (b := (0 : Int32)) dm_locate_108 rfl (fun _ E' k' => ?_) (fun _ E' k' => ?_) ?_
    · refine xw_iconst dm_locate_125 ki_0 ?_
      exact k'
    · refine xw_iload8 dm_locate_111 ?_
      refine xw_iload9 dm_locate_113 ?_
      refine xw_iand dm_locate_115 ?_
      refine xw_iload9 dm_locate_116 ?_
      refine xw_icmp_eq_mi (J := 126) (a := (0 : Int32)) (b := (1 : Int32)) dm_locate_118 rfl (fun _ E' k' => ?_) (fun _ E' k' => ?_) ?_
      · refine xw_iconst dm_locate_125 ki_0 ?_
        exact k'
      · refine xw_iconst dm_locate_121 ki_1 ?_
        refine xw_goto dm_locate_122 rfl ?_
        exact k'
      exact k'
    refine xw_li (fun v9 e_v9 => ?_)
    refine xw_istore11 dm_locate_126 (Nat.le_of_ble_eq_true rfl) rfl ?_
    refine xw_iload10 dm_locate_128 ?_
    refine xw_if_ne_mw (J := 147) (a := (if v9 = 0 then σ else (xu_u σ 2 2 v1))) (b := (xu_u σ 2 2 v1)) dm_locate_130 rfl (fun _ E' k' => ?_) (fun _ E' k' => ?_) ?_
    · refine xw_aload0 dm_locate_138 ?_
      refine xw_getR dm_locate_139 fl_m_9 (xl_n hn (by decide)) rfl r_11_0 ?_
      refine xw_iload4 dm_locate_142 ?_
      refine xw_putI dm_locate_144 fl_m_37 nf_1_2 (by decide) (xl_n hn (by decide)) rfl ?_
      exact k'
    · refine xw_iload11 dm_locate_133 ?_
      refine xw_if_eq_mw (J := 147) (a := σ) (b := (xu_u σ 2 2 v1)) dm_locate_135 rfl (fun _ E' k' => ?_) (fun _ E' k' => ?_) ?_
      · exact k'
      · refine xw_aload0 dm_locate_138 ?_
        refine xw_getR dm_locate_139 fl_m_9 (xl_n hn (by decide)) rfl r_11_0 ?_
        refine xw_iload4 dm_locate_142 ?_
        refine xw_putI dm_locate_144 fl_m_37 nf_1_2 (by decide) (xl_n hn (by decide)) rfl ?_
        exact k'
      exact k'
    refine xw_lw (fun s10 e_s10 => ?_)
    have hJ_s10 : jx_J s10 := by rw [e_s10]; exact (xj_i (fun _ => (xj_i (fun _ => hJ) (fun _ => (jx_u hJ (by decide))))) (fun _ => (jx_u hJ (by decide))))
    refine xw_iload3 dm_locate_147 ?_
    refine xw_if_eq_mi (J := 156) (a := (0 : Int32)) (b := (2 : Int32)) dm_locate_148 rfl (fun _ E' k' => ?_) (fun _ E' k' => ?_) ?_
    · refine xw_iconst dm_locate_155 ki_0 ?_
      exact k'
    · refine xw_iconst dm_locate_151 ki_2 ?_
      refine xw_goto dm_locate_152 rfl ?_
      exact k'
    refine xw_iload2 dm_locate_156 ?_
    refine xw_iconst dm_locate_157 ki_3 ?_
    refine xw_icmp_ne_mi (J := 166) (a := (4 : Int32)) (b := (0 : Int32)) dm_locate_158 rfl (fun _ E' k' => ?_) (fun _ E' k' => ?_) ?_
    · refine xw_iconst dm_locate_165 ki_0 ?_
      exact k'
    · refine xw_iconst dm_locate_161 ki_4 ?_
      refine xw_goto dm_locate_162 rfl ?_
      exact k'
    refine xw_iadd dm_locate_166 ?_
    refine xw_li (fun v11 e_v11 => ?_)
    refine xw_istore12 dm_locate_167 (Nat.le_of_ble_eq_true rfl) rfl ?_
    refine xw_aload0 dm_locate_169 ?_
    refine xw_getR dm_locate_170 fl_m_9 (xl_n hn (by decide)) rfl r_11_0 ?_
    refine xw_iload10 dm_locate_173 ?_
    refine xw_bipush dm_locate_175 kb_14 ?_
    refine xw_iload12 dm_locate_177 ?_
    refine xw_cTu dm_locate_179 (lk_m_locate_179 (xl_n hn (by decide)) rfl) ok_x_refuse (mx_refuse hl hn) ⟨Nat.le_of_ble_eq_true rfl, Nat.le_of_ble_eq_true rfl⟩ rfl (fun b12 s13 h_s13 => ?_)
    have hJ_s13 : jx_J s13 := xj_o (jx_refuse hJ_s10) h_s13
    refine xw_aload0 dm_locate_182 ?_
    refine xw_getR dm_locate_183 fl_m_9 (xl_n hn (by decide)) rfl r_11_0 ?_
    refine xw_iload11 dm_locate_186 ?_
    refine xw_bipush dm_locate_188 kb_14 ?_
    refine xw_iload12 dm_locate_190 ?_
    refine xw_iconst dm_locate_192 ki_1 ?_
    refine xw_iadd dm_locate_193 ?_
    refine xw_cTu dm_locate_194 (lk_m_locate_194 (xl_n hn (by decide)) rfl) ok_x_refuse (mx_refuse hl hn) ⟨Nat.le_of_ble_eq_true rfl, Nat.le_of_ble_eq_true rfl⟩ rfl (fun b14 s15 h_s15 => ?_)
    have hJ_s15 : jx_J s15 := xj_o (jx_refuse hJ_s13) h_s15
    refine xw_aload0 dm_locate_197 ?_
    refine xw_getR dm_locate_198 fl_m_19 (xl_n hn (by decide)) rfl r_11_2 ?_
    refine xw_iload6 dm_locate_201 ?_
    refine xw_dup2 dm_locate_203 rfl rfl ?_
    refine xw_iald dm_locate_204 (xl_n hn (by decide)) rfl ((lo_up hJ.1 e_v1 e_v3 e_v4).1) rfl ?_
    refine xw_bipush dm_locate_205 kb_32 ?_
    refine xw_ior dm_locate_207 ?_
    refine xw_iast dm_locate_208 (by decide) (xl_n hn (by decide)) rfl ((lo_up hJ.1 e_v1 e_v3 e_v4).1) rfl ?_
    refine xw_lw (fun s16 e_s16 => ?_)
    have hJ_s16 : jx_J s16 := by rw [e_s16]; exact (jx_c hJ_s15 (by decide))
    refine xw_aload0 dm_locate_209 ?_
    refine xw_getR dm_locate_210 fl_m_19 (xl_n hn (by decide)) rfl r_11_2 ?_
    refine xw_iload7 dm_locate_213 ?_
    refine xw_dup2 dm_locate_215 rfl rfl ?_
    refine xw_iald dm_locate_216 (xl_n hn (by decide)) rfl ((lo_dn e_v1 e_v3 e_v5).1) rfl ?_
    refine xw_iload3 dm_locate_217 ?_
    refine xw_if_eq_mi (J := 228) (a := (32 : Int32)) (b := (96 : Int32)) dm_locate_218 rfl (fun _ E' k' => ?_) (fun _ E' k' => ?_) ?_
    · refine xw_bipush dm_locate_226 kb_32 ?_
      exact k'
    · refine xw_bipush dm_locate_221 kb_96 ?_
      refine xw_goto dm_locate_223 rfl ?_
      exact k'
    refine xw_ior dm_locate_228 ?_
    refine xw_iast dm_locate_229 (by decide) (xl_n hn (by decide)) rfl ((lo_dn e_v1 e_v3 e_v5).1) rfl ?_
    refine xw_lw (fun s17 e_s17 => ?_)
    have hJ_s17 : jx_J s17 := by rw [e_s17]; exact (jx_c hJ_s16 (by decide))
    refine xw_bipush dm_locate_230 kb_64 ?_
    refine xw_aload0 dm_locate_232 ?_
    refine xw_iload7 dm_locate_233 ?_
    refine xw_cVi dm_locate_235 (lk_m_locate_235 (xl_n hn (by decide)) rfl) ok_m_frameAt (mm_frameAt hl hn ((lo_dn e_v1 e_v3 e_v5).2)) ⟨Nat.le_of_ble_eq_true rfl, Nat.le_of_ble_eq_true rfl⟩ ?_
    refine xw_imul dm_locate_238 ?_
    refine xw_iload4 dm_locate_239 ?_
    refine xw_bipush dm_locate_241 kb_64 ?_
    refine xw_irem dm_locate_243 nz_64 ?_
    refine xw_iadd dm_locate_244 ?_
    exact xw_iret dm_locate_245 rfl
  · refine xw_iload4 dm_locate_14 ?_
    exact xw_iret dm_locate_16 rfl
theorem jm_locate {a1 : Int32} {a2 : Int32} {a3 : Int32} {σ : xs_S} (hJ : jx_J σ) : jx_J (fm_locate a1 a2 a3 σ).2 := by
  unfold fm_locate
  refine xj_l (fun v1 e_v1 => ?_)
  refine xj_f (fun h2 => ?_) (fun h2 => ?_)
  · exact hJ
  · refine xj_l (fun v3 e_v3 => ?_)
    refine xj_l (fun v4 e_v4 => ?_)
    refine xj_l (fun v5 e_v5 => ?_)
    refine xj_l (fun v6 e_v6 => ?_)
    refine xj_l (fun v7 e_v7 => ?_)
    refine xj_l (fun v8 e_v8 => ?_)
    refine xj_l (fun v9 e_v9 => ?_)
    refine xj_l (fun s10 e_s10 => ?_)
    have hJ_s10 : jx_J s10 := by rw [e_s10]; exact (xj_i (fun _ => (xj_i (fun _ => hJ) (fun _ => (jx_u hJ (by decide))))) (fun _ => (jx_u hJ (by decide))))
    refine xj_l (fun v11 e_v11 => ?_)
    refine xj_b (jx_refuse hJ_s10) (fun b12 s13 h_s13 hJ_s13 => ?_)
    refine xj_b (jx_refuse hJ_s13) (fun b14 s15 h_s15 hJ_s15 => ?_)
    refine xj_l (fun s16 e_s16 => ?_)
    have hJ_s16 : jx_J s16 := by rw [e_s16]; exact (jx_c hJ_s15 (by decide))
    refine xj_l (fun s17 e_s17 => ?_)
    have hJ_s17 : jx_J s17 := by rw [e_s17]; exact (jx_c hJ_s16 (by decide))
    exact hJ_s17
theorem lo_nn {a1 a2 a3 b : Int32} {σ s : xs_S} (_ : jx_J σ) (h : fm_locate a1 a2 a3 σ = (some b, s)) : ¬ b < 0 := by
  have key : xv_V (fun b => ¬ b < 0) (fm_locate a1 a2 a3 σ) := by
    unfold fm_locate
    refine xv_l (fun v1 e1 => ?_)
    refine xv_f (fun _ => xv_r (lo_v1 e1)) (fun _ => ?_)
    refine xv_l (fun v3 e3 => xv_l (fun v4 e4 => xv_l (fun v5 e5 => xv_l (fun v6 e6 => xv_l (fun v7 e7 => xv_l (fun v8 e8 => xv_l (fun v9 e9 => xv_l (fun s10 e10 => xv_l (fun v11 e11 => ?_)))))))))
    refine xv_b (fun _ s13 => xv_b (fun _ s15 => xv_l (fun s16 e16 => xv_l (fun s17 e17 => xv_r ?_))))
    exact lo_re e1
  exact key b s h
def fm_eightAt (a1 : Int32) (σ : xs_S) : xp_P Int64 := xp_b (fm_locate (a1 + (0 : Int32)) (0 : Int32) (0 : Int32) σ) (fun b1 s2 => xl_l (((0 : Int64) ||| ((((fm_at b1 s2)).toInt64) <<< ((((8 : Int32) * (0 : Int32))).toInt64 &&& 63)))) (fun v3 => xp_b (fm_locate (a1 + (1 : Int32)) (0 : Int32) (0 : Int32) s2) (fun b4 s5 => xl_l ((v3 ||| ((((fm_at b4 s5)).toInt64) <<< ((((8 : Int32) * (1 : Int32))).toInt64 &&& 63)))) (fun v6 => xp_b (fm_locate (a1 + (2 : Int32)) (0 : Int32) (0 : Int32) s5) (fun b7 s8 => xl_l ((v6 ||| ((((fm_at b7 s8)).toInt64) <<< ((((8 : Int32) * (2 : Int32))).toInt64 &&& 63)))) (fun v9 => xp_b (fm_locate (a1 + (3 : Int32)) (0 : Int32) (0 : Int32) s8) (fun b10 s11 => xl_l ((v9 ||| ((((fm_at b10 s11)).toInt64) <<< ((((8 : Int32) * (3 : Int32))).toInt64 &&& 63)))) (fun v12 => xp_b (fm_locate (a1 + (4 : Int32)) (0 : Int32) (0 : Int32) s11) (fun b13 s14 => xl_l ((v12 ||| ((((fm_at b13 s14)).toInt64) <<< ((((8 : Int32) * (4 : Int32))).toInt64 &&& 63)))) (fun v15 => xp_b (fm_locate (a1 + (5 : Int32)) (0 : Int32) (0 : Int32) s14) (fun b16 s17 => xl_l ((v15 ||| ((((fm_at b16 s17)).toInt64) <<< ((((8 : Int32) * (5 : Int32))).toInt64 &&& 63)))) (fun v18 => xp_b (fm_locate (a1 + (6 : Int32)) (0 : Int32) (0 : Int32) s17) (fun b19 s20 => xl_l ((v18 ||| ((((fm_at b19 s20)).toInt64) <<< ((((8 : Int32) * (6 : Int32))).toInt64 &&& 63)))) (fun v21 => xp_b (fm_locate (a1 + (7 : Int32)) (0 : Int32) (0 : Int32) s20) (fun b22 s23 => xl_l ((v21 ||| ((((fm_at b22 s23)).toInt64) <<< ((((8 : Int32) * (7 : Int32))).toInt64 &&& 63)))) (fun v24 => (some v24, s23)))))))))))))))))
set_option maxRecDepth 100000 in
set_option maxHeartbeats 4000000 in
theorem mm_eightAt {l : Launch} {N n u : Nat} {a1 : Int32} {σ : xs_S} (hl : l.stackTraces = false) (hn : 29 ≤ n) (hJ : jx_J σ) : xm_m (xk_k N) l tm_eightAt [.ref 11, .int a1] (n, u, σ, xr_0) (xe_t el_l n u (fm_eightAt a1 σ)) := by
  refine xm_of hl ok_m_eightAt (Nat.le_of_ble_eq_true rfl) ?_
  show xw_w (xk_k N) l tm_eightAt 0 [some (.ref 11), some (.int a1), none, none, none] [] (n, u, σ, xr_0) (xe_t el_l n u (fm_eightAt a1 σ))
  unfold fm_eightAt
  refine xw_lconst dm_eightAt_0 kl_0 ?_
  refine xw_lstore2 dm_eightAt_1 (Nat.le_of_ble_eq_true rfl) rfl ?_
  refine xw_iconst dm_eightAt_2 ki_0 ?_
  refine xw_istore4 dm_eightAt_3 (Nat.le_of_ble_eq_true rfl) rfl ?_
  refine xw_iload4 dm_eightAt_5 ?_
  refine xw_bipush dm_eightAt_7 kb_8 ?_
  refine xw_icmp_ge_f dm_eightAt_9 rfl (by decide) ?_
  refine xw_lload2 dm_eightAt_12 ?_
  refine xw_aload0 dm_eightAt_13 ?_
  refine xw_aload0 dm_eightAt_14 ?_
  refine xw_iload1 dm_eightAt_15 ?_
  refine xw_iload4 dm_eightAt_16 ?_
  refine xw_iadd dm_eightAt_18 ?_
  refine xw_iconst dm_eightAt_19 ki_0 ?_
  refine xw_iconst dm_eightAt_20 ki_0 ?_
  refine xw_cTi dm_eightAt_21 (lk_m_eightAt_21 (xl_n hn (by decide)) rfl) ok_m_locate (mm_locate hl hn hJ) ⟨Nat.le_of_ble_eq_true rfl, Nat.le_of_ble_eq_true rfl⟩ rfl (fun b1 s2 h_s2 => ?_)
  have hJ_s2 : jx_J s2 := xj_o (jm_locate hJ) h_s2
  refine xw_cVi dm_eightAt_24 (lk_m_eightAt_24 (xl_n hn (by decide)) rfl) ok_m_at (mm_at hl hn (lo_nn hJ h_s2)) ⟨Nat.le_of_ble_eq_true rfl, Nat.le_of_ble_eq_true rfl⟩ ?_
  refine xw_i2l dm_eightAt_27 ?_
  refine xw_bipush dm_eightAt_28 kb_8 ?_
  refine xw_iload4 dm_eightAt_30 ?_
  refine xw_imul dm_eightAt_32 ?_
  refine xw_lshl dm_eightAt_33 ?_
  refine xw_lor dm_eightAt_34 ?_
  refine xw_lj (fun v3 e_v3 => ?_)
  refine xw_lstore2 dm_eightAt_35 (Nat.le_of_ble_eq_true rfl) rfl ?_
  refine xw_iinc4 dm_eightAt_36 ic_0_1 (Nat.le_of_ble_eq_true rfl) rfl ?_
  refine xw_goto dm_eightAt_39 rfl ?_
  refine xw_iload4 dm_eightAt_5 ?_
  refine xw_bipush dm_eightAt_7 kb_8 ?_
  refine xw_icmp_ge_f dm_eightAt_9 rfl (by decide) ?_
  refine xw_lload2 dm_eightAt_12 ?_
  refine xw_aload0 dm_eightAt_13 ?_
  refine xw_aload0 dm_eightAt_14 ?_
  refine xw_iload1 dm_eightAt_15 ?_
  refine xw_iload4 dm_eightAt_16 ?_
  refine xw_iadd dm_eightAt_18 ?_
  refine xw_iconst dm_eightAt_19 ki_0 ?_
  refine xw_iconst dm_eightAt_20 ki_0 ?_
  refine xw_cTi dm_eightAt_21 (lk_m_eightAt_21 (xl_n hn (by decide)) rfl) ok_m_locate (mm_locate hl hn hJ_s2) ⟨Nat.le_of_ble_eq_true rfl, Nat.le_of_ble_eq_true rfl⟩ rfl (fun b4 s5 h_s5 => ?_)
  have hJ_s5 : jx_J s5 := xj_o (jm_locate hJ_s2) h_s5
  refine xw_cVi dm_eightAt_24 (lk_m_eightAt_24 (xl_n hn (by decide)) rfl) ok_m_at (mm_at hl hn (lo_nn hJ_s2 h_s5)) ⟨Nat.le_of_ble_eq_true rfl, Nat.le_of_ble_eq_true rfl⟩ ?_
  refine xw_i2l dm_eightAt_27 ?_
  refine xw_bipush dm_eightAt_28 kb_8 ?_
  refine xw_iload4 dm_eightAt_30 ?_
  refine xw_imul dm_eightAt_32 ?_
  refine xw_lshl dm_eightAt_33 ?_
  refine xw_lor dm_eightAt_34 ?_
  refine xw_lj (fun v6 e_v6 => ?_)
  refine xw_lstore2 dm_eightAt_35 (Nat.le_of_ble_eq_true rfl) rfl ?_
  refine xw_iinc4 dm_eightAt_36 ic_1_1 (Nat.le_of_ble_eq_true rfl) rfl ?_
  refine xw_goto dm_eightAt_39 rfl ?_
  refine xw_iload4 dm_eightAt_5 ?_
  refine xw_bipush dm_eightAt_7 kb_8 ?_
  refine xw_icmp_ge_f dm_eightAt_9 rfl (by decide) ?_
  refine xw_lload2 dm_eightAt_12 ?_
  refine xw_aload0 dm_eightAt_13 ?_
  refine xw_aload0 dm_eightAt_14 ?_
  refine xw_iload1 dm_eightAt_15 ?_
  refine xw_iload4 dm_eightAt_16 ?_
  refine xw_iadd dm_eightAt_18 ?_
  refine xw_iconst dm_eightAt_19 ki_0 ?_
  refine xw_iconst dm_eightAt_20 ki_0 ?_
  refine xw_cTi dm_eightAt_21 (lk_m_eightAt_21 (xl_n hn (by decide)) rfl) ok_m_locate (mm_locate hl hn hJ_s5) ⟨Nat.le_of_ble_eq_true rfl, Nat.le_of_ble_eq_true rfl⟩ rfl (fun b7 s8 h_s8 => ?_)
  have hJ_s8 : jx_J s8 := xj_o (jm_locate hJ_s5) h_s8
  refine xw_cVi dm_eightAt_24 (lk_m_eightAt_24 (xl_n hn (by decide)) rfl) ok_m_at (mm_at hl hn (lo_nn hJ_s5 h_s8)) ⟨Nat.le_of_ble_eq_true rfl, Nat.le_of_ble_eq_true rfl⟩ ?_
  refine xw_i2l dm_eightAt_27 ?_
  refine xw_bipush dm_eightAt_28 kb_8 ?_
  refine xw_iload4 dm_eightAt_30 ?_
  refine xw_imul dm_eightAt_32 ?_
  refine xw_lshl dm_eightAt_33 ?_
  refine xw_lor dm_eightAt_34 ?_
  refine xw_lj (fun v9 e_v9 => ?_)
  refine xw_lstore2 dm_eightAt_35 (Nat.le_of_ble_eq_true rfl) rfl ?_
  refine xw_iinc4 dm_eightAt_36 ic_2_1 (Nat.le_of_ble_eq_true rfl) rfl ?_
  refine xw_goto dm_eightAt_39 rfl ?_
  refine xw_iload4 dm_eightAt_5 ?_
  refine xw_bipush dm_eightAt_7 kb_8 ?_
  refine xw_icmp_ge_f dm_eightAt_9 rfl (by decide) ?_
  refine xw_lload2 dm_eightAt_12 ?_
  refine xw_aload0 dm_eightAt_13 ?_
  refine xw_aload0 dm_eightAt_14 ?_
  refine xw_iload1 dm_eightAt_15 ?_
  refine xw_iload4 dm_eightAt_16 ?_
  refine xw_iadd dm_eightAt_18 ?_
  refine xw_iconst dm_eightAt_19 ki_0 ?_
  refine xw_iconst dm_eightAt_20 ki_0 ?_
  refine xw_cTi dm_eightAt_21 (lk_m_eightAt_21 (xl_n hn (by decide)) rfl) ok_m_locate (mm_locate hl hn hJ_s8) ⟨Nat.le_of_ble_eq_true rfl, Nat.le_of_ble_eq_true rfl⟩ rfl (fun b10 s11 h_s11 => ?_)
  have hJ_s11 : jx_J s11 := xj_o (jm_locate hJ_s8) h_s11
  refine xw_cVi dm_eightAt_24 (lk_m_eightAt_24 (xl_n hn (by decide)) rfl) ok_m_at (mm_at hl hn (lo_nn hJ_s8 h_s11)) ⟨Nat.le_of_ble_eq_true rfl, Nat.le_of_ble_eq_true rfl⟩ ?_
  refine xw_i2l dm_eightAt_27 ?_
  refine xw_bipush dm_eightAt_28 kb_8 ?_
  refine xw_iload4 dm_eightAt_30 ?_
  refine xw_imul dm_eightAt_32 ?_
  refine xw_lshl dm_eightAt_33 ?_
  refine xw_lor dm_eightAt_34 ?_
  refine xw_lj (fun v12 e_v12 => ?_)
  refine xw_lstore2 dm_eightAt_35 (Nat.le_of_ble_eq_true rfl) rfl ?_
  refine xw_iinc4 dm_eightAt_36 ic_3_1 (Nat.le_of_ble_eq_true rfl) rfl ?_
  refine xw_goto dm_eightAt_39 rfl ?_
  refine xw_iload4 dm_eightAt_5 ?_
  refine xw_bipush dm_eightAt_7 kb_8 ?_
  refine xw_icmp_ge_f dm_eightAt_9 rfl (by decide) ?_
  refine xw_lload2 dm_eightAt_12 ?_
  refine xw_aload0 dm_eightAt_13 ?_
  refine xw_aload0 dm_eightAt_14 ?_
  refine xw_iload1 dm_eightAt_15 ?_
  refine xw_iload4 dm_eightAt_16 ?_
  refine xw_iadd dm_eightAt_18 ?_
  refine xw_iconst dm_eightAt_19 ki_0 ?_
  refine xw_iconst dm_eightAt_20 ki_0 ?_
  refine xw_cTi dm_eightAt_21 (lk_m_eightAt_21 (xl_n hn (by decide)) rfl) ok_m_locate (mm_locate hl hn hJ_s11) ⟨Nat.le_of_ble_eq_true rfl, Nat.le_of_ble_eq_true rfl⟩ rfl (fun b13 s14 h_s14 => ?_)
  have hJ_s14 : jx_J s14 := xj_o (jm_locate hJ_s11) h_s14
  refine xw_cVi dm_eightAt_24 (lk_m_eightAt_24 (xl_n hn (by decide)) rfl) ok_m_at (mm_at hl hn (lo_nn hJ_s11 h_s14)) ⟨Nat.le_of_ble_eq_true rfl, Nat.le_of_ble_eq_true rfl⟩ ?_
  refine xw_i2l dm_eightAt_27 ?_
  refine xw_bipush dm_eightAt_28 kb_8 ?_
  refine xw_iload4 dm_eightAt_30 ?_
  refine xw_imul dm_eightAt_32 ?_
  refine xw_lshl dm_eightAt_33 ?_
  refine xw_lor dm_eightAt_34 ?_
  refine xw_lj (fun v15 e_v15 => ?_)
  refine xw_lstore2 dm_eightAt_35 (Nat.le_of_ble_eq_true rfl) rfl ?_
  refine xw_iinc4 dm_eightAt_36 ic_4_1 (Nat.le_of_ble_eq_true rfl) rfl ?_
  refine xw_goto dm_eightAt_39 rfl ?_
  refine xw_iload4 dm_eightAt_5 ?_
  refine xw_bipush dm_eightAt_7 kb_8 ?_
  refine xw_icmp_ge_f dm_eightAt_9 rfl (by decide) ?_
  refine xw_lload2 dm_eightAt_12 ?_
  refine xw_aload0 dm_eightAt_13 ?_
  refine xw_aload0 dm_eightAt_14 ?_
  refine xw_iload1 dm_eightAt_15 ?_
  refine xw_iload4 dm_eightAt_16 ?_
  refine xw_iadd dm_eightAt_18 ?_
  refine xw_iconst dm_eightAt_19 ki_0 ?_
  refine xw_iconst dm_eightAt_20 ki_0 ?_
  refine xw_cTi dm_eightAt_21 (lk_m_eightAt_21 (xl_n hn (by decide)) rfl) ok_m_locate (mm_locate hl hn hJ_s14) ⟨Nat.le_of_ble_eq_true rfl, Nat.le_of_ble_eq_true rfl⟩ rfl (fun b16 s17 h_s17 => ?_)
  have hJ_s17 : jx_J s17 := xj_o (jm_locate hJ_s14) h_s17
  refine xw_cVi dm_eightAt_24 (lk_m_eightAt_24 (xl_n hn (by decide)) rfl) ok_m_at (mm_at hl hn (lo_nn hJ_s14 h_s17)) ⟨Nat.le_of_ble_eq_true rfl, Nat.le_of_ble_eq_true rfl⟩ ?_
  refine xw_i2l dm_eightAt_27 ?_
  refine xw_bipush dm_eightAt_28 kb_8 ?_
  refine xw_iload4 dm_eightAt_30 ?_
  refine xw_imul dm_eightAt_32 ?_
  refine xw_lshl dm_eightAt_33 ?_
  refine xw_lor dm_eightAt_34 ?_
  refine xw_lj (fun v18 e_v18 => ?_)
  refine xw_lstore2 dm_eightAt_35 (Nat.le_of_ble_eq_true rfl) rfl ?_
  refine xw_iinc4 dm_eightAt_36 ic_5_1 (Nat.le_of_ble_eq_true rfl) rfl ?_
  refine xw_goto dm_eightAt_39 rfl ?_
  refine xw_iload4 dm_eightAt_5 ?_
  refine xw_bipush dm_eightAt_7 kb_8 ?_
  refine xw_icmp_ge_f dm_eightAt_9 rfl (by decide) ?_
  refine xw_lload2 dm_eightAt_12 ?_
  refine xw_aload0 dm_eightAt_13 ?_
  refine xw_aload0 dm_eightAt_14 ?_
  refine xw_iload1 dm_eightAt_15 ?_
  refine xw_iload4 dm_eightAt_16 ?_
  refine xw_iadd dm_eightAt_18 ?_
  refine xw_iconst dm_eightAt_19 ki_0 ?_
  refine xw_iconst dm_eightAt_20 ki_0 ?_
  refine xw_cTi dm_eightAt_21 (lk_m_eightAt_21 (xl_n hn (by decide)) rfl) ok_m_locate (mm_locate hl hn hJ_s17) ⟨Nat.le_of_ble_eq_true rfl, Nat.le_of_ble_eq_true rfl⟩ rfl (fun b19 s20 h_s20 => ?_)
  have hJ_s20 : jx_J s20 := xj_o (jm_locate hJ_s17) h_s20
  refine xw_cVi dm_eightAt_24 (lk_m_eightAt_24 (xl_n hn (by decide)) rfl) ok_m_at (mm_at hl hn (lo_nn hJ_s17 h_s20)) ⟨Nat.le_of_ble_eq_true rfl, Nat.le_of_ble_eq_true rfl⟩ ?_
  refine xw_i2l dm_eightAt_27 ?_
  refine xw_bipush dm_eightAt_28 kb_8 ?_
  refine xw_iload4 dm_eightAt_30 ?_
  refine xw_imul dm_eightAt_32 ?_
  refine xw_lshl dm_eightAt_33 ?_
  refine xw_lor dm_eightAt_34 ?_
  refine xw_lj (fun v21 e_v21 => ?_)
  refine xw_lstore2 dm_eightAt_35 (Nat.le_of_ble_eq_true rfl) rfl ?_
  refine xw_iinc4 dm_eightAt_36 ic_6_1 (Nat.le_of_ble_eq_true rfl) rfl ?_
  refine xw_goto dm_eightAt_39 rfl ?_
  refine xw_iload4 dm_eightAt_5 ?_
  refine xw_bipush dm_eightAt_7 kb_8 ?_
  refine xw_icmp_ge_f dm_eightAt_9 rfl (by decide) ?_
  refine xw_lload2 dm_eightAt_12 ?_
  refine xw_aload0 dm_eightAt_13 ?_
  refine xw_aload0 dm_eightAt_14 ?_
  refine xw_iload1 dm_eightAt_15 ?_
  refine xw_iload4 dm_eightAt_16 ?_
  refine xw_iadd dm_eightAt_18 ?_
  refine xw_iconst dm_eightAt_19 ki_0 ?_
  refine xw_iconst dm_eightAt_20 ki_0 ?_
  refine xw_cTi dm_eightAt_21 (lk_m_eightAt_21 (xl_n hn (by decide)) rfl) ok_m_locate (mm_locate hl hn hJ_s20) ⟨Nat.le_of_ble_eq_true rfl, Nat.le_of_ble_eq_true rfl⟩ rfl (fun b22 s23 h_s23 => ?_)
  have hJ_s23 : jx_J s23 := xj_o (jm_locate hJ_s20) h_s23
  refine xw_cVi dm_eightAt_24 (lk_m_eightAt_24 (xl_n hn (by decide)) rfl) ok_m_at (mm_at hl hn (lo_nn hJ_s20 h_s23)) ⟨Nat.le_of_ble_eq_true rfl, Nat.le_of_ble_eq_true rfl⟩ ?_
  refine xw_i2l dm_eightAt_27 ?_
  refine xw_bipush dm_eightAt_28 kb_8 ?_
  refine xw_iload4 dm_eightAt_30 ?_
  refine xw_imul dm_eightAt_32 ?_
  refine xw_lshl dm_eightAt_33 ?_
  refine xw_lor dm_eightAt_34 ?_
  refine xw_lj (fun v24 e_v24 => ?_)
  refine xw_lstore2 dm_eightAt_35 (Nat.le_of_ble_eq_true rfl) rfl ?_
  refine xw_iinc4 dm_eightAt_36 ic_7_1 (Nat.le_of_ble_eq_true rfl) rfl ?_
  refine xw_goto dm_eightAt_39 rfl ?_
  refine xw_iload4 dm_eightAt_5 ?_
  refine xw_bipush dm_eightAt_7 kb_8 ?_
  refine xw_icmp_ge_t dm_eightAt_9 rfl (by decide) ?_
  refine xw_lload2 dm_eightAt_42 ?_
  exact xw_lret dm_eightAt_43 rfl
theorem jm_eightAt {a1 : Int32} {σ : xs_S} (hJ : jx_J σ) : jx_J (fm_eightAt a1 σ).2 := by
  unfold fm_eightAt
  refine xj_b (jm_locate hJ) (fun b1 s2 h_s2 hJ_s2 => ?_)
  refine xj_l (fun v3 e_v3 => ?_)
  refine xj_b (jm_locate hJ_s2) (fun b4 s5 h_s5 hJ_s5 => ?_)
  refine xj_l (fun v6 e_v6 => ?_)
  refine xj_b (jm_locate hJ_s5) (fun b7 s8 h_s8 hJ_s8 => ?_)
  refine xj_l (fun v9 e_v9 => ?_)
  refine xj_b (jm_locate hJ_s8) (fun b10 s11 h_s11 hJ_s11 => ?_)
  refine xj_l (fun v12 e_v12 => ?_)
  refine xj_b (jm_locate hJ_s11) (fun b13 s14 h_s14 hJ_s14 => ?_)
  refine xj_l (fun v15 e_v15 => ?_)
  refine xj_b (jm_locate hJ_s14) (fun b16 s17 h_s17 hJ_s17 => ?_)
  refine xj_l (fun v18 e_v18 => ?_)
  refine xj_b (jm_locate hJ_s17) (fun b19 s20 h_s20 hJ_s20 => ?_)
  refine xj_l (fun v21 e_v21 => ?_)
  refine xj_b (jm_locate hJ_s20) (fun b22 s23 h_s23 hJ_s23 => ?_)
  refine xj_l (fun v24 e_v24 => ?_)
  exact hJ_s23
