def fy_end (σ : xs_S) : Int32 × xs_S := (if (σ 18 8) = 0 then xl_l ((fy_begins σ)) (fun s2 => xl_l ((if ((s2 20 20) &&& (2 : Int32)) = 0 then (fy_returns (1 : Int32) s2) else (fy_leaveTask s2))) (fun s3 => xl_l (fy_ends s3) (fun r4 => (r4.1, r4.2)))) else ((-1 : Int32), σ))
set_option maxRecDepth 100000 in
set_option maxHeartbeats 4000000 in
theorem my_end {l : Launch} {N n u : Nat} {σ : xs_S} (hl : l.stackTraces = false) (hn : 29 ≤ n) (hJ : yx_J σ) : xm_m (xk_k N) l ty_end [.ref 18] (n, u, σ, xr_0) (xe_p ei_i n u (fy_end σ)) := by
  refine xm_of hl ok_y_end (Nat.le_of_ble_eq_true rfl) ?_
  show xw_w (xk_k N) l ty_end 0 [some (.ref 18)] [] (n, u, σ, xr_0) (xe_p ei_i n u (fy_end σ))
  unfold fy_end
  refine xw_aload0 dy_end_0 ?_
  refine xw_getI dy_end_1 fl_y_177 (by decide) (xl_n hn (by decide)) rfl ?_
  refine xw_if_eq' dy_end_4 rfl (fun h1 => ?_) (fun h1 => ?_)
  · refine xw_aload0 dy_end_9 ?_
    refine xw_cW dy_end_10 (lk_y_end_10 (xl_n hn (by decide)) rfl) ok_y_begins (my_begins hl hn) ⟨Nat.le_of_ble_eq_true rfl, Nat.le_of_ble_eq_true rfl⟩ ?_
    refine xw_lw (fun s2 e_s2 => ?_)
    have hJ_s2 : yx_J s2 := by rw [e_s2]; exact (jy_begins hJ)
    refine xw_aload0 dy_end_13 ?_
    refine xw_getR dy_end_14 fl_y_13 (xl_n hn (by decide)) rfl r_18_5 ?_
    refine xw_bipush dy_end_17 kb_20 ?_
    refine xw_iald dy_end_19 (xl_n hn (by decide)) rfl vc_20_26 cn_20 ?_
    refine xw_iconst dy_end_20 ki_2 ?_
    refine xw_iand dy_end_21 ?_
    refine xw_if_ne_mw (J := 37) (a := (fy_returns (1 : Int32) s2)) (b := (fy_leaveTask s2)) dy_end_22 rfl (fun _ E' k' => ?_) (fun _ E' k' => ?_) ?_
    · refine xw_aload0 dy_end_33 ?_
      refine xw_cW dy_end_34 (lk_y_end_34 (xl_n hn (by decide)) rfl) ok_y_leaveTask (my_leaveTask hl hn hJ_s2) ⟨Nat.le_of_ble_eq_true rfl, Nat.le_of_ble_eq_true rfl⟩ ?_
      exact k'
    · refine xw_aload0 dy_end_25 ?_
      refine xw_iconst dy_end_26 ki_1 ?_
      refine xw_cW dy_end_27 (lk_y_end_27 (xl_n hn (by decide)) rfl) ok_y_returns (my_returns hl hn hJ_s2) ⟨Nat.le_of_ble_eq_true rfl, Nat.le_of_ble_eq_true rfl⟩ ?_
      refine xw_goto dy_end_30 rfl ?_
      exact k'
    refine xw_lw (fun s3 e_s3 => ?_)
    have hJ_s3 : yx_J s3 := by rw [e_s3]; exact (xj_i (fun _ => (jy_returns hJ_s2)) (fun _ => (jy_leaveTask hJ_s2)))
    refine xw_aload0 dy_end_37 ?_
    refine xw_cPi dy_end_38 (lk_y_end_38 (xl_n hn (by decide)) rfl) ok_y_ends (my_ends hl hn hJ_s3) ⟨Nat.le_of_ble_eq_true rfl, Nat.le_of_ble_eq_true rfl⟩ ?_
    refine xw_lpi (fun r4 e_r4 => ?_)
    have hJ_r4 : yx_J r4.2 := by rw [e_r4]; exact (jy_ends hJ_s3)
    exact xw_iret dy_end_41 rfl
  · refine xw_iconst dy_end_7 ki_m1 ?_
    exact xw_iret dy_end_8 rfl
theorem jy_end {σ : xs_S} (hJ : yx_J σ) : yx_J (fy_end σ).2 := by
  unfold fy_end
  refine xj_f (fun h1 => ?_) (fun h1 => ?_)
  · refine xj_l (fun s2 e_s2 => ?_)
    have hJ_s2 : yx_J s2 := by rw [e_s2]; exact (jy_begins hJ)
    refine xj_l (fun s3 e_s3 => ?_)
    have hJ_s3 : yx_J s3 := by rw [e_s3]; exact (xj_i (fun _ => (jy_returns hJ_s2)) (fun _ => (jy_leaveTask hJ_s2)))
    refine xj_l (fun r4 e_r4 => ?_)
    have hJ_r4 : yx_J r4.2 := by rw [e_r4]; exact (jy_ends hJ_s3)
    exact hJ_r4
  · exact hJ
def fy_poke (a1 : Int32) (a2 : Int32) (σ : xs_S) : Int32 × xs_S := (if a1 < 0 then ((0 : Int32), σ) else (if a1 ≤ (2047 : Int32) then xl_l ((xu_u σ 19 (a1).toNatClampNeg (a2 &&& (255 : Int32)))) (fun s3 => ((1 : Int32), s3)) else ((0 : Int32), σ)))
set_option maxRecDepth 100000 in
set_option maxHeartbeats 4000000 in
theorem my_poke {l : Launch} {N n u : Nat} {a1 : Int32} {a2 : Int32} {σ : xs_S} (hl : l.stackTraces = false) (hn : 29 ≤ n) : xm_m (xk_k N) l ty_poke [.ref 18, .int a1, .int a2] (n, u, σ, xr_0) (xe_p ei_i n u (fy_poke a1 a2 σ)) := by
  refine xm_of hl ok_y_poke (Nat.le_of_ble_eq_true rfl) ?_
  show xw_w (xk_k N) l ty_poke 0 [some (.ref 18), some (.int a1), some (.int a2)] [] (n, u, σ, xr_0) (xe_p ei_i n u (fy_poke a1 a2 σ))
  unfold fy_poke
  refine xw_iload1 dy_poke_0 ?_
  refine xw_if_lt' dy_poke_1 rfl (fun h1 => ?_) (fun h1 => ?_)
  · refine xw_iconst dy_poke_11 ki_0 ?_
    exact xw_zret dy_poke_12 rfl (by decide)
  · refine xw_iload1 dy_poke_4 ?_
    refine xw_sipush dy_poke_5 ks_2047 ?_
    refine xw_icmp_le' dy_poke_8 rfl (fun h2 => ?_) (fun h2 => ?_)
    · refine xw_aload0 dy_poke_13 ?_
      refine xw_getR dy_poke_14 fl_y_7 (xl_n hn (by decide)) rfl r_18_0 ?_
      refine xw_iload1 dy_poke_17 ?_
      refine xw_iload2 dy_poke_18 ?_
      refine xw_sipush dy_poke_19 ks_255 ?_
      refine xw_iand dy_poke_22 ?_
      refine xw_iast dy_poke_23 (by decide) (xl_n hn (by decide)) rfl (vi_p h1 h2) rfl ?_
      refine xw_lw (fun s3 e_s3 => ?_)
      refine xw_iconst dy_poke_24 ki_1 ?_
      exact xw_zret dy_poke_25 rfl (by decide)
    · refine xw_iconst dy_poke_11 ki_0 ?_
      exact xw_zret dy_poke_12 rfl (by decide)
theorem jy_poke {a1 : Int32} {a2 : Int32} {σ : xs_S} (hJ : yx_J σ) : yx_J (fy_poke a1 a2 σ).2 := by
  unfold fy_poke
  refine xj_f (fun h1 => ?_) (fun h1 => ?_)
  · exact hJ
  · refine xj_f (fun h2 => ?_) (fun h2 => ?_)
    · refine xj_l (fun s3 e_s3 => ?_)
      have hJ_s3 : yx_J s3 := by rw [e_s3]; exact (yx_c hJ (by decide))
      exact hJ_s3
    · exact hJ
def fy_peek (a1 : Int32) (σ : xs_S) : Int32 := (if a1 < 0 then (-1 : Int32) else (if a1 ≤ (2047 : Int32) then (σ 19 (a1).toNatClampNeg) else (-1 : Int32)))
set_option maxRecDepth 100000 in
set_option maxHeartbeats 4000000 in
theorem my_peek {l : Launch} {N n u : Nat} {a1 : Int32} {σ : xs_S} (hl : l.stackTraces = false) (hn : 29 ≤ n) : xm_m (xk_k N) l ty_peek [.ref 18, .int a1] (n, u, σ, xr_0) (xe_v ei_i n u σ (fy_peek a1 σ)) := by
  refine xm_of hl ok_y_peek (Nat.le_of_ble_eq_true rfl) ?_
  show xw_w (xk_k N) l ty_peek 0 [some (.ref 18), some (.int a1)] [] (n, u, σ, xr_0) (xe_v ei_i n u σ (fy_peek a1 σ))
  unfold fy_peek
  refine xw_iload1 dy_peek_0 ?_
  refine xw_if_lt' dy_peek_1 rfl (fun h1 => ?_) (fun h1 => ?_)
  · refine xw_iconst dy_peek_11 ki_m1 ?_
    refine xw_goto dy_peek_12 rfl ?_
    exact xw_iret dy_peek_21 rfl
  · refine xw_iload1 dy_peek_4 ?_
    refine xw_sipush dy_peek_5 ks_2047 ?_
    refine xw_icmp_le' dy_peek_8 rfl (fun h2 => ?_) (fun h2 => ?_)
    · refine xw_aload0 dy_peek_15 ?_
      refine xw_getR dy_peek_16 fl_y_7 (xl_n hn (by decide)) rfl r_18_0 ?_
      refine xw_iload1 dy_peek_19 ?_
      refine xw_iald dy_peek_20 (xl_n hn (by decide)) rfl (vi_p h1 h2) rfl ?_
      exact xw_iret dy_peek_21 rfl
    · refine xw_iconst dy_peek_11 ki_m1 ?_
      refine xw_goto dy_peek_12 rfl ?_
      exact xw_iret dy_peek_21 rfl
def fy_fill (a1 : Int32) (a2 : Int64) (σ : xs_S) : Int32 × xs_S := (if a1 < 0 then ((0 : Int32), σ) else (if (2040 : Int32) < a1 then ((0 : Int32), σ) else (if (a1 - a1 / (8 : Int32) * (8 : Int32)) = 0 then xl_l ((xu_u σ 19 ((a1 + (0 : Int32))).toNatClampNeg ((((a2 >>> ((((8 : Int32) * (0 : Int32))).toInt64 &&& 63)) &&& (255 : Int64))).toInt32))) (fun s4 => xl_l ((xu_u s4 19 ((a1 + (1 : Int32))).toNatClampNeg ((((a2 >>> ((((8 : Int32) * (1 : Int32))).toInt64 &&& 63)) &&& (255 : Int64))).toInt32))) (fun s5 => xl_l ((xu_u s5 19 ((a1 + (2 : Int32))).toNatClampNeg ((((a2 >>> ((((8 : Int32) * (2 : Int32))).toInt64 &&& 63)) &&& (255 : Int64))).toInt32))) (fun s6 => xl_l ((xu_u s6 19 ((a1 + (3 : Int32))).toNatClampNeg ((((a2 >>> ((((8 : Int32) * (3 : Int32))).toInt64 &&& 63)) &&& (255 : Int64))).toInt32))) (fun s7 => xl_l ((xu_u s7 19 ((a1 + (4 : Int32))).toNatClampNeg ((((a2 >>> ((((8 : Int32) * (4 : Int32))).toInt64 &&& 63)) &&& (255 : Int64))).toInt32))) (fun s8 => xl_l ((xu_u s8 19 ((a1 + (5 : Int32))).toNatClampNeg ((((a2 >>> ((((8 : Int32) * (5 : Int32))).toInt64 &&& 63)) &&& (255 : Int64))).toInt32))) (fun s9 => xl_l ((xu_u s9 19 ((a1 + (6 : Int32))).toNatClampNeg ((((a2 >>> ((((8 : Int32) * (6 : Int32))).toInt64 &&& 63)) &&& (255 : Int64))).toInt32))) (fun s10 => xl_l ((xu_u s10 19 ((a1 + (7 : Int32))).toNatClampNeg ((((a2 >>> ((((8 : Int32) * (7 : Int32))).toInt64 &&& 63)) &&& (255 : Int64))).toInt32))) (fun s11 => ((1 : Int32), s11))))))))) else ((0 : Int32), σ))))
set_option maxRecDepth 100000 in
set_option maxHeartbeats 4000000 in
theorem my_fill {l : Launch} {N n u : Nat} {a1 : Int32} {a2 : Int64} {σ : xs_S} (hl : l.stackTraces = false) (hn : 29 ≤ n) : xm_m (xk_k N) l ty_fill [.ref 18, .int a1, .long a2] (n, u, σ, xr_0) (xe_p ei_i n u (fy_fill a1 a2 σ)) := by
  refine xm_of hl ok_y_fill (Nat.le_of_ble_eq_true rfl) ?_
  show xw_w (xk_k N) l ty_fill 0 [some (.ref 18), some (.int a1), some (.long a2), none, none] [] (n, u, σ, xr_0) (xe_p ei_i n u (fy_fill a1 a2 σ))
  unfold fy_fill
  refine xw_iload1 dy_fill_0 ?_
  refine xw_if_lt' dy_fill_1 rfl (fun h1 => ?_) (fun h1 => ?_)
  · refine xw_iconst dy_fill_18 ki_0 ?_
    exact xw_zret dy_fill_19 rfl (by decide)
  · refine xw_iload1 dy_fill_4 ?_
    refine xw_sipush dy_fill_5 ks_2040 ?_
    refine xw_icmp_gt' dy_fill_8 rfl (fun h2 => ?_) (fun h2 => ?_)
    · refine xw_iconst dy_fill_18 ki_0 ?_
      exact xw_zret dy_fill_19 rfl (by decide)
    · refine xw_iload1 dy_fill_11 ?_
      refine xw_bipush dy_fill_12 kb_8 ?_
      refine xw_irem dy_fill_14 nz_8 ?_
      refine xw_if_eq' dy_fill_15 rfl (fun h3 => ?_) (fun h3 => ?_)
      · refine xw_iconst dy_fill_20 ki_0 ?_
        refine xw_istore4 dy_fill_21 (Nat.le_of_ble_eq_true rfl) rfl ?_
        refine xw_iload4 dy_fill_23 ?_
        refine xw_bipush dy_fill_25 kb_8 ?_
        refine xw_icmp_ge_f dy_fill_27 rfl (by decide) ?_
        refine xw_aload0 dy_fill_30 ?_
        refine xw_getR dy_fill_31 fl_y_7 (xl_n hn (by decide)) rfl r_18_0 ?_
        refine xw_iload1 dy_fill_34 ?_
        refine xw_iload4 dy_fill_35 ?_
        refine xw_iadd dy_fill_37 ?_
        refine xw_lload2 dy_fill_38 ?_
        refine xw_bipush dy_fill_39 kb_8 ?_
        refine xw_iload4 dy_fill_41 ?_
        refine xw_imul dy_fill_43 ?_
        refine xw_lshr dy_fill_44 ?_
        refine xw_ldc2 dy_fill_45 kj_y_202 ?_
        refine xw_land dy_fill_48 ?_
        refine xw_l2i dy_fill_49 ?_
        refine xw_iast dy_fill_50 (by decide) (xl_n hn (by decide)) rfl (vi_f h1 h2 (by decide)) rfl ?_
        refine xw_lw (fun s4 e_s4 => ?_)
        refine xw_iinc4 dy_fill_51 ic_0_1 (Nat.le_of_ble_eq_true rfl) rfl ?_
        refine xw_goto dy_fill_54 rfl ?_
        refine xw_iload4 dy_fill_23 ?_
        refine xw_bipush dy_fill_25 kb_8 ?_
        refine xw_icmp_ge_f dy_fill_27 rfl (by decide) ?_
        refine xw_aload0 dy_fill_30 ?_
        refine xw_getR dy_fill_31 fl_y_7 (xl_n hn (by decide)) rfl r_18_0 ?_
        refine xw_iload1 dy_fill_34 ?_
        refine xw_iload4 dy_fill_35 ?_
        refine xw_iadd dy_fill_37 ?_
        refine xw_lload2 dy_fill_38 ?_
        refine xw_bipush dy_fill_39 kb_8 ?_
        refine xw_iload4 dy_fill_41 ?_
        refine xw_imul dy_fill_43 ?_
        refine xw_lshr dy_fill_44 ?_
        refine xw_ldc2 dy_fill_45 kj_y_202 ?_
        refine xw_land dy_fill_48 ?_
        refine xw_l2i dy_fill_49 ?_
        refine xw_iast dy_fill_50 (by decide) (xl_n hn (by decide)) rfl (vi_f h1 h2 (by decide)) rfl ?_
        refine xw_lw (fun s5 e_s5 => ?_)
        refine xw_iinc4 dy_fill_51 ic_1_1 (Nat.le_of_ble_eq_true rfl) rfl ?_
        refine xw_goto dy_fill_54 rfl ?_
        refine xw_iload4 dy_fill_23 ?_
        refine xw_bipush dy_fill_25 kb_8 ?_
        refine xw_icmp_ge_f dy_fill_27 rfl (by decide) ?_
        refine xw_aload0 dy_fill_30 ?_
        refine xw_getR dy_fill_31 fl_y_7 (xl_n hn (by decide)) rfl r_18_0 ?_
        refine xw_iload1 dy_fill_34 ?_
        refine xw_iload4 dy_fill_35 ?_
        refine xw_iadd dy_fill_37 ?_
        refine xw_lload2 dy_fill_38 ?_
        refine xw_bipush dy_fill_39 kb_8 ?_
        refine xw_iload4 dy_fill_41 ?_
        refine xw_imul dy_fill_43 ?_
        refine xw_lshr dy_fill_44 ?_
        refine xw_ldc2 dy_fill_45 kj_y_202 ?_
        refine xw_land dy_fill_48 ?_
        refine xw_l2i dy_fill_49 ?_
        refine xw_iast dy_fill_50 (by decide) (xl_n hn (by decide)) rfl (vi_f h1 h2 (by decide)) rfl ?_
        refine xw_lw (fun s6 e_s6 => ?_)
        refine xw_iinc4 dy_fill_51 ic_2_1 (Nat.le_of_ble_eq_true rfl) rfl ?_
        refine xw_goto dy_fill_54 rfl ?_
        refine xw_iload4 dy_fill_23 ?_
        refine xw_bipush dy_fill_25 kb_8 ?_
        refine xw_icmp_ge_f dy_fill_27 rfl (by decide) ?_
        refine xw_aload0 dy_fill_30 ?_
        refine xw_getR dy_fill_31 fl_y_7 (xl_n hn (by decide)) rfl r_18_0 ?_
        refine xw_iload1 dy_fill_34 ?_
        refine xw_iload4 dy_fill_35 ?_
        refine xw_iadd dy_fill_37 ?_
        refine xw_lload2 dy_fill_38 ?_
        refine xw_bipush dy_fill_39 kb_8 ?_
        refine xw_iload4 dy_fill_41 ?_
        refine xw_imul dy_fill_43 ?_
        refine xw_lshr dy_fill_44 ?_
        refine xw_ldc2 dy_fill_45 kj_y_202 ?_
        refine xw_land dy_fill_48 ?_
        refine xw_l2i dy_fill_49 ?_
        refine xw_iast dy_fill_50 (by decide) (xl_n hn (by decide)) rfl (vi_f h1 h2 (by decide)) rfl ?_
        refine xw_lw (fun s7 e_s7 => ?_)
        refine xw_iinc4 dy_fill_51 ic_3_1 (Nat.le_of_ble_eq_true rfl) rfl ?_
        refine xw_goto dy_fill_54 rfl ?_
        refine xw_iload4 dy_fill_23 ?_
        refine xw_bipush dy_fill_25 kb_8 ?_
        refine xw_icmp_ge_f dy_fill_27 rfl (by decide) ?_
        refine xw_aload0 dy_fill_30 ?_
        refine xw_getR dy_fill_31 fl_y_7 (xl_n hn (by decide)) rfl r_18_0 ?_
        refine xw_iload1 dy_fill_34 ?_
        refine xw_iload4 dy_fill_35 ?_
        refine xw_iadd dy_fill_37 ?_
        refine xw_lload2 dy_fill_38 ?_
        refine xw_bipush dy_fill_39 kb_8 ?_
        refine xw_iload4 dy_fill_41 ?_
        refine xw_imul dy_fill_43 ?_
        refine xw_lshr dy_fill_44 ?_
        refine xw_ldc2 dy_fill_45 kj_y_202 ?_
        refine xw_land dy_fill_48 ?_
        refine xw_l2i dy_fill_49 ?_
        refine xw_iast dy_fill_50 (by decide) (xl_n hn (by decide)) rfl (vi_f h1 h2 (by decide)) rfl ?_
        refine xw_lw (fun s8 e_s8 => ?_)
        refine xw_iinc4 dy_fill_51 ic_4_1 (Nat.le_of_ble_eq_true rfl) rfl ?_
        refine xw_goto dy_fill_54 rfl ?_
        refine xw_iload4 dy_fill_23 ?_
        refine xw_bipush dy_fill_25 kb_8 ?_
        refine xw_icmp_ge_f dy_fill_27 rfl (by decide) ?_
        refine xw_aload0 dy_fill_30 ?_
        refine xw_getR dy_fill_31 fl_y_7 (xl_n hn (by decide)) rfl r_18_0 ?_
        refine xw_iload1 dy_fill_34 ?_
        refine xw_iload4 dy_fill_35 ?_
        refine xw_iadd dy_fill_37 ?_
        refine xw_lload2 dy_fill_38 ?_
        refine xw_bipush dy_fill_39 kb_8 ?_
        refine xw_iload4 dy_fill_41 ?_
        refine xw_imul dy_fill_43 ?_
        refine xw_lshr dy_fill_44 ?_
        refine xw_ldc2 dy_fill_45 kj_y_202 ?_
        refine xw_land dy_fill_48 ?_
        refine xw_l2i dy_fill_49 ?_
        refine xw_iast dy_fill_50 (by decide) (xl_n hn (by decide)) rfl (vi_f h1 h2 (by decide)) rfl ?_
        refine xw_lw (fun s9 e_s9 => ?_)
        refine xw_iinc4 dy_fill_51 ic_5_1 (Nat.le_of_ble_eq_true rfl) rfl ?_
        refine xw_goto dy_fill_54 rfl ?_
        refine xw_iload4 dy_fill_23 ?_
        refine xw_bipush dy_fill_25 kb_8 ?_
        refine xw_icmp_ge_f dy_fill_27 rfl (by decide) ?_
        refine xw_aload0 dy_fill_30 ?_
        refine xw_getR dy_fill_31 fl_y_7 (xl_n hn (by decide)) rfl r_18_0 ?_
        refine xw_iload1 dy_fill_34 ?_
        refine xw_iload4 dy_fill_35 ?_
        refine xw_iadd dy_fill_37 ?_
        refine xw_lload2 dy_fill_38 ?_
        refine xw_bipush dy_fill_39 kb_8 ?_
        refine xw_iload4 dy_fill_41 ?_
        refine xw_imul dy_fill_43 ?_
        refine xw_lshr dy_fill_44 ?_
        refine xw_ldc2 dy_fill_45 kj_y_202 ?_
        refine xw_land dy_fill_48 ?_
        refine xw_l2i dy_fill_49 ?_
        refine xw_iast dy_fill_50 (by decide) (xl_n hn (by decide)) rfl (vi_f h1 h2 (by decide)) rfl ?_
        refine xw_lw (fun s10 e_s10 => ?_)
        refine xw_iinc4 dy_fill_51 ic_6_1 (Nat.le_of_ble_eq_true rfl) rfl ?_
        refine xw_goto dy_fill_54 rfl ?_
        refine xw_iload4 dy_fill_23 ?_
        refine xw_bipush dy_fill_25 kb_8 ?_
        refine xw_icmp_ge_f dy_fill_27 rfl (by decide) ?_
        refine xw_aload0 dy_fill_30 ?_
        refine xw_getR dy_fill_31 fl_y_7 (xl_n hn (by decide)) rfl r_18_0 ?_
        refine xw_iload1 dy_fill_34 ?_
        refine xw_iload4 dy_fill_35 ?_
        refine xw_iadd dy_fill_37 ?_
        refine xw_lload2 dy_fill_38 ?_
        refine xw_bipush dy_fill_39 kb_8 ?_
        refine xw_iload4 dy_fill_41 ?_
        refine xw_imul dy_fill_43 ?_
        refine xw_lshr dy_fill_44 ?_
        refine xw_ldc2 dy_fill_45 kj_y_202 ?_
        refine xw_land dy_fill_48 ?_
        refine xw_l2i dy_fill_49 ?_
        refine xw_iast dy_fill_50 (by decide) (xl_n hn (by decide)) rfl (vi_f h1 h2 (by decide)) rfl ?_
        refine xw_lw (fun s11 e_s11 => ?_)
        refine xw_iinc4 dy_fill_51 ic_7_1 (Nat.le_of_ble_eq_true rfl) rfl ?_
        refine xw_goto dy_fill_54 rfl ?_
        refine xw_iload4 dy_fill_23 ?_
        refine xw_bipush dy_fill_25 kb_8 ?_
        refine xw_icmp_ge_t dy_fill_27 rfl (by decide) ?_
        refine xw_iconst dy_fill_57 ki_1 ?_
        exact xw_zret dy_fill_58 rfl (by decide)
      · refine xw_iconst dy_fill_18 ki_0 ?_
        exact xw_zret dy_fill_19 rfl (by decide)
theorem jy_fill {a1 : Int32} {a2 : Int64} {σ : xs_S} (hJ : yx_J σ) : yx_J (fy_fill a1 a2 σ).2 := by
  unfold fy_fill
  refine xj_f (fun h1 => ?_) (fun h1 => ?_)
  · exact hJ
  · refine xj_f (fun h2 => ?_) (fun h2 => ?_)
    · exact hJ
    · refine xj_f (fun h3 => ?_) (fun h3 => ?_)
      · refine xj_l (fun s4 e_s4 => ?_)
        have hJ_s4 : yx_J s4 := by rw [e_s4]; exact (yx_c hJ (by decide))
        refine xj_l (fun s5 e_s5 => ?_)
        have hJ_s5 : yx_J s5 := by rw [e_s5]; exact (yx_c hJ_s4 (by decide))
        refine xj_l (fun s6 e_s6 => ?_)
        have hJ_s6 : yx_J s6 := by rw [e_s6]; exact (yx_c hJ_s5 (by decide))
        refine xj_l (fun s7 e_s7 => ?_)
        have hJ_s7 : yx_J s7 := by rw [e_s7]; exact (yx_c hJ_s6 (by decide))
        refine xj_l (fun s8 e_s8 => ?_)
        have hJ_s8 : yx_J s8 := by rw [e_s8]; exact (yx_c hJ_s7 (by decide))
        refine xj_l (fun s9 e_s9 => ?_)
        have hJ_s9 : yx_J s9 := by rw [e_s9]; exact (yx_c hJ_s8 (by decide))
        refine xj_l (fun s10 e_s10 => ?_)
        have hJ_s10 : yx_J s10 := by rw [e_s10]; exact (yx_c hJ_s9 (by decide))
        refine xj_l (fun s11 e_s11 => ?_)
        have hJ_s11 : yx_J s11 := by rw [e_s11]; exact (yx_c hJ_s10 (by decide))
        exact hJ_s11
      · exact hJ
def fy_tables (a1 : Int32) (a2 : Int32) (a3 : Int32) (σ : xs_S) : Int32 × xs_S := (if (σ 18 8) = 0 then (if a2 < 0 then ((0 : Int32), σ) else (if a2 ≤ (32 : Int32) then xl_l ((xu_u σ 18 2 (a1 &&& (4095 : Int32)))) (fun s4 => xl_l ((xu_u s4 18 3 a2)) (fun s5 => xl_l ((xu_u s5 18 4 (a3 &&& (4095 : Int32)))) (fun s6 => ((1 : Int32), s6)))) else ((0 : Int32), σ))) else ((0 : Int32), σ))
set_option maxRecDepth 100000 in
set_option maxHeartbeats 4000000 in
theorem my_tables {l : Launch} {N n u : Nat} {a1 : Int32} {a2 : Int32} {a3 : Int32} {σ : xs_S} (hl : l.stackTraces = false) (hn : 29 ≤ n) : xm_m (xk_k N) l ty_tables [.ref 18, .int a1, .int a2, .int a3] (n, u, σ, xr_0) (xe_p ei_i n u (fy_tables a1 a2 a3 σ)) := by
  refine xm_of hl ok_y_tables (Nat.le_of_ble_eq_true rfl) ?_
  show xw_w (xk_k N) l ty_tables 0 [some (.ref 18), some (.int a1), some (.int a2), some (.int a3)] [] (n, u, σ, xr_0) (xe_p ei_i n u (fy_tables a1 a2 a3 σ))
  unfold fy_tables
  refine xw_aload0 dy_tables_0 ?_
  refine xw_getI dy_tables_1 fl_y_177 (by decide) (xl_n hn (by decide)) rfl ?_
  refine xw_if_ne' dy_tables_4 rfl (fun h1 => ?_) (fun h1 => ?_)
  · refine xw_iconst dy_tables_17 ki_0 ?_
    exact xw_zret dy_tables_18 rfl (by decide)
  · refine xw_iload2 dy_tables_7 ?_
    refine xw_if_lt' dy_tables_8 rfl (fun h2 => ?_) (fun h2 => ?_)
    · refine xw_iconst dy_tables_17 ki_0 ?_
      exact xw_zret dy_tables_18 rfl (by decide)
    · refine xw_iload2 dy_tables_11 ?_
      refine xw_bipush dy_tables_12 kb_32 ?_
      refine xw_icmp_le' dy_tables_14 rfl (fun h3 => ?_) (fun h3 => ?_)
      · refine xw_aload0 dy_tables_19 ?_
        refine xw_iload1 dy_tables_20 ?_
        refine xw_sipush dy_tables_21 ks_4095 ?_
        refine xw_iand dy_tables_24 ?_
        refine xw_putI dy_tables_25 fl_y_81 nf_5_2 (by decide) (xl_n hn (by decide)) rfl ?_
        refine xw_lw (fun s4 e_s4 => ?_)
        refine xw_aload0 dy_tables_28 ?_
        refine xw_iload2 dy_tables_29 ?_
        refine xw_putI dy_tables_30 fl_y_74 nf_5_3 (by decide) (xl_n hn (by decide)) rfl ?_
        refine xw_lw (fun s5 e_s5 => ?_)
        refine xw_aload0 dy_tables_33 ?_
        refine xw_iload3 dy_tables_34 ?_
        refine xw_sipush dy_tables_35 ks_4095 ?_
        refine xw_iand dy_tables_38 ?_
        refine xw_putI dy_tables_39 fl_y_152 nf_5_4 (by decide) (xl_n hn (by decide)) rfl ?_
        refine xw_lw (fun s6 e_s6 => ?_)
        refine xw_iconst dy_tables_42 ki_1 ?_
        exact xw_zret dy_tables_43 rfl (by decide)
      · refine xw_iconst dy_tables_17 ki_0 ?_
        exact xw_zret dy_tables_18 rfl (by decide)
theorem jy_tables {a1 : Int32} {a2 : Int32} {a3 : Int32} {σ : xs_S} (hJ : yx_J σ) : yx_J (fy_tables a1 a2 a3 σ).2 := by
  unfold fy_tables
  refine xj_f (fun h1 => ?_) (fun h1 => ?_)
  · refine xj_f (fun h2 => ?_) (fun h2 => ?_)
    · exact hJ
    · refine xj_f (fun h3 => ?_) (fun h3 => ?_)
      · refine xj_l (fun s4 e_s4 => ?_)
        have hJ_s4 : yx_J s4 := by rw [e_s4]; exact (yx_u hJ (by decide))
        refine xj_l (fun s5 e_s5 => ?_)
        have hJ_s5 : yx_J s5 := by rw [e_s5]; exact (yx_u hJ_s4 (by decide))
        refine xj_l (fun s6 e_s6 => ?_)
        have hJ_s6 : yx_J s6 := by rw [e_s6]; exact (yx_u hJ_s5 (by decide))
        exact hJ_s6
      · exact hJ
  · exact hJ
def fy_pages (a1 : Int32) (a2 : Int32) (σ : xs_S) : Int32 × xs_S := (if (σ 18 8) = 0 then xl_l ((xu_u σ 20 24 (a1 &&& (31 : Int32)))) (fun s2 => xl_l ((xu_u s2 18 1 (a2 &&& 1))) (fun s3 => ((1 : Int32), s3))) else ((0 : Int32), σ))
set_option maxRecDepth 100000 in
set_option maxHeartbeats 4000000 in
theorem my_pages {l : Launch} {N n u : Nat} {a1 : Int32} {a2 : Int32} {σ : xs_S} (hl : l.stackTraces = false) (hn : 29 ≤ n) : xm_m (xk_k N) l ty_pages [.ref 18, .int a1, .int a2] (n, u, σ, xr_0) (xe_p ei_i n u (fy_pages a1 a2 σ)) := by
  refine xm_of hl ok_y_pages (Nat.le_of_ble_eq_true rfl) ?_
  show xw_w (xk_k N) l ty_pages 0 [some (.ref 18), some (.int a1), some (.int a2)] [] (n, u, σ, xr_0) (xe_p ei_i n u (fy_pages a1 a2 σ))
  unfold fy_pages
  refine xw_aload0 dy_pages_0 ?_
  refine xw_getI dy_pages_1 fl_y_177 (by decide) (xl_n hn (by decide)) rfl ?_
  refine xw_if_eq' dy_pages_4 rfl (fun h1 => ?_) (fun h1 => ?_)
  · refine xw_aload0 dy_pages_9 ?_
    refine xw_getR dy_pages_10 fl_y_13 (xl_n hn (by decide)) rfl r_18_5 ?_
    refine xw_bipush dy_pages_13 kb_24 ?_
    refine xw_iload1 dy_pages_15 ?_
    refine xw_bipush dy_pages_16 kb_31 ?_
    refine xw_iand dy_pages_18 ?_
    refine xw_iast dy_pages_19 (by decide) (xl_n hn (by decide)) rfl vc_24_26 cn_24 ?_
    refine xw_lw (fun s2 e_s2 => ?_)
    refine xw_aload0 dy_pages_20 ?_
    refine xw_iload2 dy_pages_21 ?_
    refine xw_putZ dy_pages_22 fl_y_46 nf_5_1 (by decide) (xl_n hn (by decide)) rfl ?_
    refine xw_lw (fun s3 e_s3 => ?_)
    refine xw_iconst dy_pages_25 ki_1 ?_
    exact xw_zret dy_pages_26 rfl (by decide)
  · refine xw_iconst dy_pages_7 ki_0 ?_
    exact xw_zret dy_pages_8 rfl (by decide)
theorem jy_pages {a1 : Int32} {a2 : Int32} {σ : xs_S} (hJ : yx_J σ) : yx_J (fy_pages a1 a2 σ).2 := by
  unfold fy_pages
  refine xj_f (fun h1 => ?_) (fun h1 => ?_)
  · refine xj_l (fun s2 e_s2 => ?_)
    have hJ_s2 : yx_J s2 := by rw [e_s2]; exact (yx_p hJ)
    refine xj_l (fun s3 e_s3 => ?_)
    have hJ_s3 : yx_J s3 := by rw [e_s3]; exact (yx_u hJ_s2 (by decide))
    exact hJ_s3
  · exact hJ
def fy_register (a1 : Int32) (σ : xs_S) : Int32 := (if a1 < 0 then (-1 : Int32) else (if a1 ≤ (12 : Int32) then (if (3 : Int32) ≤ a1 then (if (10 : Int32) ≤ a1 then (if a1 = (10 : Int32) then (σ 18 7) else (if a1 = (11 : Int32) then (σ 20 25) else (if (σ 18 8) = 0 then (0 : Int32) else (1 : Int32)))) else (σ 20 ((((18 : Int32) + a1) - (3 : Int32))).toNatClampNeg)) else (σ 20 (a1).toNatClampNeg)) else (-1 : Int32)))
set_option maxRecDepth 100000 in
set_option maxHeartbeats 4000000 in
theorem my_register {l : Launch} {N n u : Nat} {a1 : Int32} {σ : xs_S} (hl : l.stackTraces = false) (hn : 29 ≤ n) : xm_m (xk_k N) l ty_register [.ref 18, .int a1] (n, u, σ, xr_0) (xe_v ei_i n u σ (fy_register a1 σ)) := by
  refine xm_of hl ok_y_register (Nat.le_of_ble_eq_true rfl) ?_
  show xw_w (xk_k N) l ty_register 0 [some (.ref 18), some (.int a1)] [] (n, u, σ, xr_0) (xe_v ei_i n u σ (fy_register a1 σ))
  unfold fy_register
  refine xw_iload1 dy_register_0 ?_
  refine xw_if_lt' dy_register_1 rfl (fun h1 => ?_) (fun h1 => ?_)
  · refine xw_iconst dy_register_10 ki_m1 ?_
    exact xw_iret dy_register_11 rfl
  · refine xw_iload1 dy_register_4 ?_
    refine xw_bipush dy_register_5 kb_12 ?_
    refine xw_icmp_le' dy_register_7 rfl (fun h2 => ?_) (fun h2 => ?_)
    · refine xw_iload1 dy_register_12 ?_
      refine xw_iconst dy_register_13 ki_3 ?_
      refine xw_icmp_ge' dy_register_14 rfl (fun h3 => ?_) (fun h3 => ?_)
      · refine xw_iload1 dy_register_24 ?_
        refine xw_bipush dy_register_25 kb_10 ?_
        refine xw_icmp_ge' dy_register_27 rfl (fun h4 => ?_) (fun h4 => ?_)
        · refine xw_iload1 dy_register_44 ?_
          refine xw_bipush dy_register_45 kb_10 ?_
          refine xw_icmp_ne' dy_register_47 rfl (fun h5 => ?_) (fun h5 => ?_)
          · refine xw_iload1 dy_register_57 ?_
            refine xw_bipush dy_register_58 kb_11 ?_
            refine xw_icmp_ne' dy_register_60 rfl (fun h6 => ?_) (fun h6 => ?_)
            · refine xw_aload0 dy_register_73 ?_
              refine xw_getI dy_register_74 fl_y_177 (by decide) (xl_n hn (by decide)) rfl ?_
              refine xw_if_eq' dy_register_77 rfl (fun h7 => ?_) (fun h7 => ?_)
              · refine xw_iconst dy_register_84 ki_0 ?_
                exact xw_iret dy_register_85 rfl
              · refine xw_iconst dy_register_80 ki_1 ?_
                refine xw_goto dy_register_81 rfl ?_
                exact xw_iret dy_register_85 rfl
            · refine xw_aload0 dy_register_63 ?_
              refine xw_getR dy_register_64 fl_y_13 (xl_n hn (by decide)) rfl r_18_5 ?_
              refine xw_bipush dy_register_67 kb_25 ?_
              refine xw_iald dy_register_69 (xl_n hn (by decide)) rfl vc_25_26 cn_25 ?_
              refine xw_goto dy_register_70 rfl ?_
              exact xw_iret dy_register_85 rfl
          · refine xw_aload0 dy_register_50 ?_
            refine xw_getI dy_register_51 fl_y_50 (by decide) (xl_n hn (by decide)) rfl ?_
            refine xw_goto dy_register_54 rfl ?_
            exact xw_iret dy_register_85 rfl
        · refine xw_aload0 dy_register_30 ?_
          refine xw_getR dy_register_31 fl_y_13 (xl_n hn (by decide)) rfl r_18_5 ?_
          refine xw_bipush dy_register_34 kb_18 ?_
          refine xw_iload1 dy_register_36 ?_
          refine xw_iadd dy_register_37 ?_
          refine xw_iconst dy_register_38 ki_3 ?_
          refine xw_isub dy_register_39 ?_
          refine xw_iald dy_register_40 (xl_n hn (by decide)) rfl (vr_2 h3 h4) rfl ?_
          refine xw_goto dy_register_41 rfl ?_
          exact xw_iret dy_register_85 rfl
      · refine xw_aload0 dy_register_17 ?_
        refine xw_getR dy_register_18 fl_y_13 (xl_n hn (by decide)) rfl r_18_5 ?_
        refine xw_iload1 dy_register_21 ?_
        refine xw_iald dy_register_22 (xl_n hn (by decide)) rfl (vr_1 h1 h3) rfl ?_
        exact xw_iret dy_register_23 rfl
    · refine xw_iconst dy_register_10 ki_m1 ?_
      exact xw_iret dy_register_11 rfl
def fy_segment (a1 : Int32) (a2 : Int32) (σ : xs_S) : Int32 := (if a1 < 0 then (-1 : Int32) else (if (2 : Int32) < a1 then (-1 : Int32) else (if a2 < 0 then (-1 : Int32) else (if a2 ≤ (3 : Int32) then (if (σ 20 (((3 : Int32) + a1)).toNatClampNeg) = (1 : Int32) then (0 : Int32) else (σ 20 ((((6 : Int32) + ((3 : Int32) * a2)) + a1)).toNatClampNeg)) else (-1 : Int32)))))
set_option maxRecDepth 100000 in
set_option maxHeartbeats 4000000 in
theorem my_segment {l : Launch} {N n u : Nat} {a1 : Int32} {a2 : Int32} {σ : xs_S} (hl : l.stackTraces = false) (hn : 29 ≤ n) : xm_m (xk_k N) l ty_segment [.ref 18, .int a1, .int a2] (n, u, σ, xr_0) (xe_v ei_i n u σ (fy_segment a1 a2 σ)) := by
  refine xm_of hl ok_y_segment (Nat.le_of_ble_eq_true rfl) ?_
  show xw_w (xk_k N) l ty_segment 0 [some (.ref 18), some (.int a1), some (.int a2)] [] (n, u, σ, xr_0) (xe_v ei_i n u σ (fy_segment a1 a2 σ))
  unfold fy_segment
  refine xw_iload1 dy_segment_0 ?_
  refine xw_if_lt' dy_segment_1 rfl (fun h1 => ?_) (fun h1 => ?_)
  · refine xw_iconst dy_segment_18 ki_m1 ?_
    exact xw_iret dy_segment_19 rfl
  · refine xw_iload1 dy_segment_4 ?_
    refine xw_iconst dy_segment_5 ki_2 ?_
    refine xw_icmp_gt' dy_segment_6 rfl (fun h2 => ?_) (fun h2 => ?_)
    · refine xw_iconst dy_segment_18 ki_m1 ?_
      exact xw_iret dy_segment_19 rfl
    · refine xw_iload2 dy_segment_9 ?_
      refine xw_if_lt' dy_segment_10 rfl (fun h3 => ?_) (fun h3 => ?_)
      · refine xw_iconst dy_segment_18 ki_m1 ?_
        exact xw_iret dy_segment_19 rfl
      · refine xw_iload2 dy_segment_13 ?_
        refine xw_iconst dy_segment_14 ki_3 ?_
        refine xw_icmp_le' dy_segment_15 rfl (fun h4 => ?_) (fun h4 => ?_)
        · refine xw_aload0 dy_segment_20 ?_
          refine xw_getR dy_segment_21 fl_y_13 (xl_n hn (by decide)) rfl r_18_5 ?_
          refine xw_iconst dy_segment_24 ki_3 ?_
          refine xw_iload1 dy_segment_25 ?_
          refine xw_iadd dy_segment_26 ?_
          refine xw_iald dy_segment_27 (xl_n hn (by decide)) rfl (vs_k (vs_3 h1 h2) (by decide)) rfl ?_
          refine xw_iconst dy_segment_28 ki_1 ?_
          refine xw_icmp_ne' dy_segment_29 rfl (fun h5 => ?_) (fun h5 => ?_)
          · refine xw_aload0 dy_segment_36 ?_
            refine xw_getR dy_segment_37 fl_y_13 (xl_n hn (by decide)) rfl r_18_5 ?_
            refine xw_bipush dy_segment_40 kb_6 ?_
            refine xw_iconst dy_segment_42 ki_3 ?_
            refine xw_iload2 dy_segment_43 ?_
            refine xw_imul dy_segment_44 ?_
            refine xw_iadd dy_segment_45 ?_
            refine xw_iload1 dy_segment_46 ?_
            refine xw_iadd dy_segment_47 ?_
            refine xw_iald dy_segment_48 (xl_n hn (by decide)) rfl (vr_3 (vs_3 h1 h2) h3 h4) rfl ?_
            exact xw_iret dy_segment_49 rfl
          · refine xw_iconst dy_segment_32 ki_0 ?_
            refine xw_goto dy_segment_33 rfl ?_
            exact xw_iret dy_segment_49 rfl
        · refine xw_iconst dy_segment_18 ki_m1 ?_
          exact xw_iret dy_segment_19 rfl
