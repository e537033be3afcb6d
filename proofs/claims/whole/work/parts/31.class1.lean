def fd_decode (c : Nat) (a1 : Int32) (a2 : Int64) (σ : xs_S) : xs_S := xl_l ((xu_u σ c 0 a1)) (fun s1 => xl_l ((xu_u s1 c 1 (((a2).toInt32) &&& (65535 : Int32)))) (fun s2 => xl_l ((xu_u s2 c 2 ((((((a2).toUInt64 >>> (((16 : Int32)).toInt64.toUInt64 &&& Int64.toUInt64 63)).toInt64)).toInt32) &&& (65535 : Int32)))) (fun s3 => xl_l ((xu_u s3 c 3 ((((((a2).toUInt64 >>> (((32 : Int32)).toInt64.toUInt64 &&& Int64.toUInt64 63)).toInt64)).toInt32) &&& (15 : Int32)))) (fun s4 => xl_l ((xu_u s4 c 4 ((((((a2).toUInt64 >>> (((40 : Int32)).toInt64.toUInt64 &&& Int64.toUInt64 63)).toInt64)).toInt32) &&& (3 : Int32)))) (fun s5 => xl_l ((xu_u s5 c 6 ((if (lg_cmp ((((a2).toUInt64 >>> (((47 : Int32)).toInt64.toUInt64 &&& Int64.toUInt64 63)).toInt64) &&& (1 : Int64)) (0 : Int64)) = 0 then (0 : Int32) else (1 : Int32)) &&& 1))) (fun s6 => xl_l ((xu_u s6 c 5 ((((((a2).toUInt64 >>> (((48 : Int32)).toInt64.toUInt64 &&& Int64.toUInt64 63)).toInt64)).toInt32) &&& (7 : Int32)))) (fun s7 => s7)))))))
set_option maxRecDepth 100000 in
set_option maxHeartbeats 4000000 in
theorem md_decode {l : Launch} {N n u : Nat} {c : Nat} {a1 : Int32} {a2 : Int64} {σ : xs_S} (hl : l.stackTraces = false) (hn : 29 ≤ n) (h0_c : 0 < c) (hi_c : c < n) (hk_c : xk_k N c = (0, 0)) : xm_m (xk_k N) l td_decode [.ref c, .int a1, .long a2] (n, u, σ, xr_0) (xe_w n u (fd_decode c a1 a2 σ)) := by
  refine xm_of hl ok_d_decode (Nat.le_of_ble_eq_true rfl) ?_
  show xw_w (xk_k N) l td_decode 0 [some (.ref c), some (.int a1), some (.long a2), none] [] (n, u, σ, xr_0) (xe_w n u (fd_decode c a1 a2 σ))
  unfold fd_decode
  refine xw_aload0 dd_decode_0 ?_
  refine xw_iload1 dd_decode_1 ?_
  refine xw_putI dd_decode_2 fl_d_9 nf_0_0 h0_c hi_c hk_c ?_
  refine xw_lw (fun s1 e_s1 => ?_)
  refine xw_aload0 dd_decode_5 ?_
  refine xw_lload2 dd_decode_6 ?_
  refine xw_l2i dd_decode_7 ?_
  refine xw_ldc dd_decode_8 kc_d_15 ?_
  refine xw_iand dd_decode_10 ?_
  refine xw_putI dd_decode_11 fl_d_16 nf_0_1 h0_c hi_c hk_c ?_
  refine xw_lw (fun s2 e_s2 => ?_)
  refine xw_aload0 dd_decode_14 ?_
  refine xw_lload2 dd_decode_15 ?_
  refine xw_bipush dd_decode_16 kb_16 ?_
  refine xw_lushr dd_decode_18 ?_
  refine xw_l2i dd_decode_19 ?_
  refine xw_ldc dd_decode_20 kc_d_15 ?_
  refine xw_iand dd_decode_22 ?_
  refine xw_putI dd_decode_23 fl_d_19 nf_0_2 h0_c hi_c hk_c ?_
  refine xw_lw (fun s3 e_s3 => ?_)
  refine xw_aload0 dd_decode_26 ?_
  refine xw_lload2 dd_decode_27 ?_
  refine xw_bipush dd_decode_28 kb_32 ?_
  refine xw_lushr dd_decode_30 ?_
  refine xw_l2i dd_decode_31 ?_
  refine xw_bipush dd_decode_32 kb_15 ?_
  refine xw_iand dd_decode_34 ?_
  refine xw_putI dd_decode_35 fl_d_22 nf_0_3 h0_c hi_c hk_c ?_
  refine xw_lw (fun s4 e_s4 => ?_)
  refine xw_aload0 dd_decode_38 ?_
  refine xw_lload2 dd_decode_39 ?_
  refine xw_bipush dd_decode_40 kb_40 ?_
  refine xw_lushr dd_decode_42 ?_
  refine xw_l2i dd_decode_43 ?_
  refine xw_iconst dd_decode_44 ki_3 ?_
  refine xw_iand dd_decode_45 ?_
  refine xw_putI dd_decode_46 fl_d_25 nf_0_4 h0_c hi_c hk_c ?_
  refine xw_lw (fun s5 e_s5 => ?_)
  refine xw_aload0 dd_decode_49 ?_
  refine xw_lload2 dd_decode_50 ?_
  refine xw_bipush dd_decode_51 kb_47 ?_
  refine xw_lushr dd_decode_53 ?_
  refine xw_lconst dd_decode_54 kl_1 ?_
  refine xw_land dd_decode_55 ?_
  refine xw_lconst dd_decode_56 kl_0 ?_
  refine xw_lcmp dd_decode_57 ?_
  refine xw_if_eq_mi (J := 66) (a := (0 : Int32)) (b := (1 : Int32)) dd_decode_58 rfl (fun _ E' k' => ?_) (fun _ E' k' => ?_) ?_
  · refine xw_iconst dd_decode_65 ki_0 ?_
    exact k'
  · refine xw_iconst dd_decode_61 ki_1 ?_
    refine xw_goto dd_decode_62 rfl ?_
    exact k'
  refine xw_putZ dd_decode_66 fl_d_28 nf_0_6 h0_c hi_c hk_c ?_
  refine xw_lw (fun s6 e_s6 => ?_)
  refine xw_aload0 dd_decode_69 ?_
  refine xw_lload2 dd_decode_70 ?_
  refine xw_bipush dd_decode_71 kb_48 ?_
  refine xw_lushr dd_decode_73 ?_
  refine xw_l2i dd_decode_74 ?_
  refine xw_bipush dd_decode_75 kb_7 ?_
  refine xw_iand dd_decode_77 ?_
  refine xw_putI dd_decode_78 fl_d_32 nf_0_5 h0_c hi_c hk_c ?_
  refine xw_lw (fun s7 e_s7 => ?_)
  exact xw_vret dd_decode_81 rfl
theorem jd_decode {c : Nat} {a1 : Int32} {a2 : Int64} {σ : xs_S} (hJ : jx_J σ) : jx_J (fd_decode c a1 a2 σ) := by
  unfold fd_decode
  refine xj_wl (fun s1 e_s1 => ?_)
  have hJ_s1 : jx_J s1 := by rw [e_s1]; exact (jx_d hJ (by decide) (by decide))
  refine xj_wl (fun s2 e_s2 => ?_)
  have hJ_s2 : jx_J s2 := by rw [e_s2]; exact (jx_d hJ_s1 (by decide) (by decide))
  refine xj_wl (fun s3 e_s3 => ?_)
  have hJ_s3 : jx_J s3 := by rw [e_s3]; exact (jx_d hJ_s2 (by decide) (by decide))
  refine xj_wl (fun s4 e_s4 => ?_)
  have hJ_s4 : jx_J s4 := by rw [e_s4]; exact (jx_d hJ_s3 (by decide) (by decide))
  refine xj_wl (fun s5 e_s5 => ?_)
  have hJ_s5 : jx_J s5 := by rw [e_s5]; exact (jx_d hJ_s4 (by decide) (by decide))
  refine xj_wl (fun s6 e_s6 => ?_)
  have hJ_s6 : jx_J s6 := by rw [e_s6]; exact (jx_d hJ_s5 (by decide) (by decide))
  refine xj_wl (fun s7 e_s7 => ?_)
  have hJ_s7 : jx_J s7 := by rw [e_s7]; exact (jx_w hJ_s6)
  exact hJ_s7
def fr_lookUp (a1 : Int32) (a2 : Nat) (σ : xs_S) : xp_P Unit := xl_l ((a1 >>> ((2 : Int32) &&& 31))) (fun v1 => xp_b (fx_refuse (if v1 < (σ 1 10) then (0 : Int32) else (1 : Int32)) (13 : Int32) (fr_codeOf a1 σ) σ) (fun b2 s3 => xp_b (fm_eightAt ((s3 1 9) + ((8 : Int32) * v1)) s3) (fun b4 s5 => xl_l ((fd_decode a2 a1 b4 s5)) (fun s6 => (some (), s6)))))
set_option maxRecDepth 100000 in
set_option maxHeartbeats 4000000 in
theorem mr_lookUp {l : Launch} {N n u : Nat} {a1 : Int32} {a2 : Nat} {σ : xs_S} (hl : l.stackTraces = false) (hn : 29 ≤ n) (h0_a2 : 0 < a2) (hi_a2 : a2 < n) (hk_a2 : xk_k N a2 = (0, 0)) (hJ : jx_J σ) : xm_m (xk_k N) l tr_lookUp [.ref 1, .int a1, .ref a2] (n, u, σ, xr_0) (xe_t eu_u n u (fr_lookUp a1 a2 σ)) := by
  refine xm_of hl ok_r_lookUp (Nat.le_of_ble_eq_true rfl) ?_
  show xw_w (xk_k N) l tr_lookUp 0 [some (.ref 1), some (.int a1), some (.ref a2), none] [] (n, u, σ, xr_0) (xe_t eu_u n u (fr_lookUp a1 a2 σ))
  unfold fr_lookUp
  refine xw_iload1 dr_lookUp_0 ?_
  refine xw_iconst dr_lookUp_1 ki_2 ?_
  refine xw_ishr dr_lookUp_2 ?_
  refine xw_li (fun v1 e_v1 => ?_)
  refine xw_istore3 dr_lookUp_3 (Nat.le_of_ble_eq_true rfl) rfl ?_
  refine xw_aload0 dr_lookUp_4 ?_
  refine xw_getR dr_lookUp_5 fl_r_10 (xl_n hn (by decide)) rfl r_1_0 ?_
  refine xw_iload3 dr_lookUp_8 ?_
  refine xw_aload0 dr_lookUp_9 ?_
  refine xw_getI dr_lookUp_10 fl_r_71 (by decide) (xl_n hn (by decide)) rfl ?_
  refine xw_icmp_lt_mi (J := 21) (a := (0 : Int32)) (b := (1 : Int32)) dr_lookUp_13 rfl (fun _ E' k' => ?_) (fun _ E' k' => ?_) ?_
  · refine xw_iconst dr_lookUp_20 ki_0 ?_
    exact k'
  · refine xw_iconst dr_lookUp_16 ki_1 ?_
    refine xw_goto dr_lookUp_17 rfl ?_
    exact k'
  refine xw_bipush dr_lookUp_21 kb_13 ?_
  refine xw_iload1 dr_lookUp_23 ?_
  refine xw_cVi dr_lookUp_24 (lk_r_lookUp_24) ok_r_codeOf (mr_codeOf hl hn) ⟨Nat.le_of_ble_eq_true rfl, Nat.le_of_ble_eq_true rfl⟩ ?_
  refine xw_cTu dr_lookUp_27 (lk_r_lookUp_27 (xl_n hn (by decide)) rfl) ok_x_refuse (mx_refuse hl hn) ⟨Nat.le_of_ble_eq_true rfl, Nat.le_of_ble_eq_true rfl⟩ rfl (fun b2 s3 h_s3 => ?_)
  have hJ_s3 : jx_J s3 := xj_o (jx_refuse hJ) h_s3
  refine xw_aload2 dr_lookUp_30 ?_
  refine xw_iload1 dr_lookUp_31 ?_
  refine xw_aload0 dr_lookUp_32 ?_
  refine xw_getR dr_lookUp_33 fl_r_31 (xl_n hn (by decide)) rfl r_1_3 ?_
  refine xw_aload0 dr_lookUp_36 ?_
  refine xw_getI dr_lookUp_37 fl_r_67 (by decide) (xl_n hn (by decide)) rfl ?_
  refine xw_bipush dr_lookUp_40 kb_8 ?_
  refine xw_iload3 dr_lookUp_42 ?_
  refine xw_imul dr_lookUp_43 ?_
  refine xw_iadd dr_lookUp_44 ?_
  refine xw_cTl dr_lookUp_45 (lk_r_lookUp_45 (xl_n hn (by decide)) rfl) ok_m_eightAt (mm_eightAt hl hn hJ_s3) ⟨Nat.le_of_ble_eq_true rfl, Nat.le_of_ble_eq_true rfl⟩ rfl (fun b4 s5 h_s5 => ?_)
  have hJ_s5 : jx_J s5 := xj_o (jm_eightAt hJ_s3) h_s5
  refine xw_cW dr_lookUp_48 (lk_r_lookUp_48 hi_a2 hk_a2) ok_d_decode (md_decode hl hn h0_a2 hi_a2 hk_a2) ⟨Nat.le_of_ble_eq_true rfl, Nat.le_of_ble_eq_true rfl⟩ ?_
  refine xw_lw (fun s6 e_s6 => ?_)
  have hJ_s6 : jx_J s6 := by rw [e_s6]; exact (jd_decode hJ_s5)
  exact xw_vret dr_lookUp_51 rfl
theorem jr_lookUp {a1 : Int32} {a2 : Nat} {σ : xs_S} (hJ : jx_J σ) : jx_J (fr_lookUp a1 a2 σ).2 := by
  unfold fr_lookUp
  refine xj_l (fun v1 e_v1 => ?_)
  refine xj_b (jx_refuse hJ) (fun b2 s3 h_s3 hJ_s3 => ?_)
  refine xj_b (jm_eightAt hJ_s3) (fun b4 s5 h_s5 hJ_s5 => ?_)
  refine xj_l (fun s6 e_s6 => ?_)
  have hJ_s6 : jx_J s6 := by rw [e_s6]; exact (jd_decode hJ_s5)
  exact hJ_s6
def fr_rplOf (a1 : Int32) (σ : xs_S) : Int32 := (a1 &&& (3 : Int32))
set_option maxRecDepth 100000 in
set_option maxHeartbeats 4000000 in
theorem mr_rplOf {l : Launch} {N n u : Nat} {a1 : Int32} {σ : xs_S} (hl : l.stackTraces = false) (hn : 29 ≤ n) : xm_m (xk_k N) l tr_rplOf [.int a1] (n, u, σ, xr_0) (xe_v ei_i n u σ (fr_rplOf a1 σ)) := by
  refine xm_of hl ok_r_rplOf (Nat.le_of_ble_eq_true rfl) ?_
  show xw_w (xk_k N) l tr_rplOf 0 [some (.int a1)] [] (n, u, σ, xr_0) (xe_v ei_i n u σ (fr_rplOf a1 σ))
  unfold fr_rplOf
  refine xw_iload0 dr_rplOf_0 ?_
  refine xw_iconst dr_rplOf_1 ki_3 ?_
  refine xw_iand dr_rplOf_2 ?_
  exact xw_iret dr_rplOf_3 rfl
def fr_loadStack (a1 : Int32) (σ : xs_S) : xp_P Unit := xl_l ((fr_codeOf a1 σ)) (fun v1 => xp_b (fx_refuse (fr_isNull a1 σ) (13 : Int32) (0 : Int32) σ) (fun b2 s3 => xp_b (fr_lookUp a1 15 s3) (fun b4 s5 => xl_l ((if (fr_rplOf a1 s5) = (s5 3 6) then (if (s5 15 4) = (s5 3 6) then (if (s5 15 3) = (4 : Int32) then (1 : Int32) else (0 : Int32)) else (0 : Int32)) else (0 : Int32))) (fun v6 => xp_b (fx_refuse (if v6 = 0 then (1 : Int32) else (0 : Int32)) (13 : Int32) v1 s5) (fun b7 s8 => xp_b (fx_refuse (if (s8 15 6) = 0 then (1 : Int32) else (0 : Int32)) (12 : Int32) v1 s8) (fun b9 s10 => xl_l ((fd_copy 5 15 s10)) (fun s11 => (some (), s11))))))))
set_option maxRecDepth 100000 in
set_option maxHeartbeats 4000000 in
theorem mr_loadStack {l : Launch} {N n u : Nat} {a1 : Int32} {σ : xs_S} (hl : l.stackTraces = false) (hn : 29 ≤ n) (hJ : jx_J σ) : xm_m (xk_k N) l tr_loadStack [.ref 1, .int a1] (n, u, σ, xr_0) (xe_t eu_u n u (fr_loadStack a1 σ)) := by
  refine xm_of hl ok_r_loadStack (Nat.le_of_ble_eq_true rfl) ?_
  show xw_w (xk_k N) l tr_loadStack 0 [some (.ref 1), some (.int a1), none, none] [] (n, u, σ, xr_0) (xe_t eu_u n u (fr_loadStack a1 σ))
  unfold fr_loadStack
  refine xw_iload1 dr_loadStack_0 ?_
  refine xw_cVi dr_loadStack_1 (lk_r_loadStack_1) ok_r_codeOf (mr_codeOf hl hn) ⟨Nat.le_of_ble_eq_true rfl, Nat.le_of_ble_eq_true rfl⟩ ?_
  refine xw_li (fun v1 e_v1 => ?_)
  refine xw_istore2 dr_loadStack_4 (Nat.le_of_ble_eq_true rfl) rfl ?_
  refine xw_aload0 dr_loadStack_5 ?_
  refine xw_getR dr_loadStack_6 fl_r_10 (xl_n hn (by decide)) rfl r_1_0 ?_
  refine xw_iload1 dr_loadStack_9 ?_
  refine xw_cVi dr_loadStack_10 (lk_r_loadStack_10) ok_r_isNull (mr_isNull hl hn) ⟨Nat.le_of_ble_eq_true rfl, Nat.le_of_ble_eq_true rfl⟩ ?_
  refine xw_bipush dr_loadStack_13 kb_13 ?_
  refine xw_iconst dr_loadStack_15 ki_0 ?_
  refine xw_cTu dr_loadStack_16 (lk_r_loadStack_16 (xl_n hn (by decide)) rfl) ok_x_refuse (mx_refuse hl hn) ⟨Nat.le_of_ble_eq_true rfl, Nat.le_of_ble_eq_true rfl⟩ rfl (fun b2 s3 h_s3 => ?_)
  have hJ_s3 : jx_J s3 := xj_o (jx_refuse hJ) h_s3
  refine xw_aload0 dr_loadStack_19 ?_
  refine xw_iload1 dr_loadStack_20 ?_
  refine xw_aload0 dr_loadStack_21 ?_
  refine xw_getR dr_loadStack_22 fl_r_45 (xl_n hn (by decide)) rfl r_1_6 ?_
  refine xw_cTu dr_loadStack_25 (lk_r_loadStack_25 (xl_n hn (by decide)) rfl) ok_r_lookUp (mr_lookUp hl hn (by decide) (xl_n hn (by decide)) rfl hJ_s3) ⟨Nat.le_of_ble_eq_true rfl, Nat.le_of_ble_eq_true rfl⟩ rfl (fun b4 s5 h_s5 => ?_)
  have hJ_s5 : jx_J s5 := xj_o (jr_lookUp hJ_s3) h_s5
  refine xw_iload1 dr_loadStack_28 ?_
  refine xw_cVi dr_loadStack_29 (lk_r_loadStack_29) ok_r_rplOf (mr_rplOf hl hn) ⟨Nat.le_of_ble_eq_true rfl, Nat.le_of_ble_eq_true rfl⟩ ?_
  refine xw_aload0 dr_loadStack_32 ?_
  refine xw_getR dr_loadStack_33 fl_r_19 (xl_n hn (by decide)) rfl r_1_1 ?_
  refine xw_getI dr_loadStack_36 fl_r_157 (by decide) (xl_n hn (by decide)) rfl ?_
  refine xw_icmp_ne_mi (J := 75) (a := (if (s5 15 4) = (s5 3 6) then (if (s5 15 3) = (4 : Int32) then (1 : Int32) else (0 : Int32)) else (0 : Int32))) (b := (0 : Int32)) dr_loadStack_39 rfl (fun _ E' k' => ?_) (fun _ E' k' => ?_) ?_
  · refine xw_iconst dr_loadStack_74 ki_0 ?_
    exact k'
  · refine xw_aload0 dr_loadStack_42 ?_
    refine xw_getR dr_loadStack_43 fl_r_45 (xl_n hn (by decide)) rfl r_1_6 ?_
    refine xw_getI dr_loadStack_46 fl_r_182 (by decide) (xl_n hn (by decide)) rfl ?_
    refine xw_aload0 dr_loadStack_49 ?_
    refine xw_getR dr_loadStack_50 fl_r_19 (xl_n hn (by decide)) rfl r_1_1 ?_
    refine xw_getI dr_loadStack_53 fl_r_157 (by decide) (xl_n hn (by decide)) rfl ?_
    refine xw_icmp_ne_mi (J := 75) (a := (if (s5 15 3) = (4 : Int32) then (1 : Int32) else (0 : Int32))) (b := (0 : Int32)) dr_loadStack_56 rfl (fun _ E' k' => ?_) (fun _ E' k' => ?_) ?_
    · refine xw_iconst dr_loadStack_74 ki_0 ?_
      exact k'
    · refine xw_aload0 dr_loadStack_59 ?_
      refine xw_getR dr_loadStack_60 fl_r_45 (xl_n hn (by decide)) rfl r_1_6 ?_
      refine xw_getI dr_loadStack_63 fl_r_179 (by decide) (xl_n hn (by decide)) rfl ?_
      refine xw_iconst dr_loadStack_66 ki_4 ?_
      refine xw_icmp_ne_mi (J := 75) (a := (1 : Int32)) (b := (0 : Int32)) dr_loadStack_67 rfl (fun _ E' k' => ?_) (fun _ E' k' => ?_) ?_
      · refine xw_iconst dr_loadStack_74 ki_0 ?_
        exact k'
      · refine xw_iconst dr_loadStack_70 ki_1 ?_
        refine xw_goto dr_loadStack_71 rfl ?_
        exact k'
      exact k'
    exact k'
  refine xw_li (fun v6 e_v6 => ?_)
  refine xw_istore3 dr_loadStack_75 (Nat.le_of_ble_eq_true rfl) rfl ?_
  refine xw_aload0 dr_loadStack_76 ?_
  refine xw_getR dr_loadStack_77 fl_r_10 (xl_n hn (by decide)) rfl r_1_0 ?_
  refine xw_iload3 dr_loadStack_80 ?_
  refine xw_if_ne_mi (J := 89) (a := (1 : Int32)) (b := (0 : Int32)) dr_loadStack_81 rfl (fun _ E' k' => ?_) (fun _ E' k' => ?_) ?_
  · refine xw_iconst dr_loadStack_88 ki_0 ?_
    exact k'
  · refine xw_iconst dr_loadStack_84 ki_1 ?_
    refine xw_goto dr_loadStack_85 rfl ?_
    exact k'
  refine xw_bipush dr_loadStack_89 kb_13 ?_
  refine xw_iload2 dr_loadStack_91 ?_
  refine xw_cTu dr_loadStack_92 (lk_r_loadStack_92 (xl_n hn (by decide)) rfl) ok_x_refuse (mx_refuse hl hn) ⟨Nat.le_of_ble_eq_true rfl, Nat.le_of_ble_eq_true rfl⟩ rfl (fun b7 s8 h_s8 => ?_)
  have hJ_s8 : jx_J s8 := xj_o (jx_refuse hJ_s5) h_s8
  refine xw_aload0 dr_loadStack_95 ?_
  refine xw_getR dr_loadStack_96 fl_r_10 (xl_n hn (by decide)) rfl r_1_0 ?_
  refine xw_aload0 dr_loadStack_99 ?_
  refine xw_getR dr_loadStack_100 fl_r_45 (xl_n hn (by decide)) rfl r_1_6 ?_
  refine xw_getI dr_loadStack_103 fl_r_231 (by decide) (xl_n hn (by decide)) rfl ?_
  refine xw_if_ne_mi (J := 114) (a := (1 : Int32)) (b := (0 : Int32)) dr_loadStack_106 rfl (fun _ E' k' => ?_) (fun _ E' k' => ?_) ?_
  · refine xw_iconst dr_loadStack_113 ki_0 ?_
    exact k'
  · refine xw_iconst dr_loadStack_109 ki_1 ?_
    refine xw_goto dr_loadStack_110 rfl ?_
    exact k'
  refine xw_bipush dr_loadStack_114 kb_12 ?_
  refine xw_iload2 dr_loadStack_116 ?_
  refine xw_cTu dr_loadStack_117 (lk_r_loadStack_117 (xl_n hn (by decide)) rfl) ok_x_refuse (mx_refuse hl hn) ⟨Nat.le_of_ble_eq_true rfl, Nat.le_of_ble_eq_true rfl⟩ rfl (fun b9 s10 h_s10 => ?_)
  have hJ_s10 : jx_J s10 := xj_o (jx_refuse hJ_s8) h_s10
  refine xw_aload0 dr_loadStack_120 ?_
  refine xw_getR dr_loadStack_121 fl_r_19 (xl_n hn (by decide)) rfl r_1_1 ?_
  refine xw_getR dr_loadStack_124 fl_r_145 (xl_n hn (by decide)) rfl r_3_1 ?_
  refine xw_aload0 dr_loadStack_127 ?_
  refine xw_getR dr_loadStack_128 fl_r_45 (xl_n hn (by decide)) rfl r_1_6 ?_
  refine xw_cW dr_loadStack_131 (lk_r_loadStack_131 (xl_n hn (by decide)) rfl) ok_d_copy (md_copy hl hn (by decide) (xl_n hn (by decide)) rfl (by decide) (xl_n hn (by decide)) rfl) ⟨Nat.le_of_ble_eq_true rfl, Nat.le_of_ble_eq_true rfl⟩ ?_
  refine xw_lw (fun s11 e_s11 => ?_)
  have hJ_s11 : jx_J s11 := by rw [e_s11]; exact (jd_copy (by decide) hJ_s10)
  exact xw_vret dr_loadStack_134 rfl
theorem jr_loadStack {a1 : Int32} {σ : xs_S} (hJ : jx_J σ) : jx_J (fr_loadStack a1 σ).2 := by
  unfold fr_loadStack
  refine xj_l (fun v1 e_v1 => ?_)
  refine xj_b (jx_refuse hJ) (fun b2 s3 h_s3 hJ_s3 => ?_)
  refine xj_b (jr_lookUp hJ_s3) (fun b4 s5 h_s5 hJ_s5 => ?_)
  refine xj_l (fun v6 e_v6 => ?_)
  refine xj_b (jx_refuse hJ_s5) (fun b7 s8 h_s8 hJ_s8 => ?_)
  refine xj_b (jx_refuse hJ_s8) (fun b9 s10 h_s10 hJ_s10 => ?_)
  refine xj_l (fun s11 e_s11 => ?_)
  have hJ_s11 : jx_J s11 := by rw [e_s11]; exact (jd_copy (by decide) hJ_s10)
  exact hJ_s11
def fd_clear (c : Nat) (σ : xs_S) : xs_S := xl_l ((fd_decode c (0 : Int32) (0 : Int64) σ)) (fun s1 => s1)
set_option maxRecDepth 100000 in
set_option maxHeartbeats 4000000 in
theorem md_clear {l : Launch} {N n u : Nat} {c : Nat} {σ : xs_S} (hl : l.stackTraces = false) (hn : 29 ≤ n) (h0_c : 0 < c) (hi_c : c < n) (hk_c : xk_k N c = (0, 0)) : xm_m (xk_k N) l td_clear [.ref c] (n, u, σ, xr_0) (xe_w n u (fd_clear c σ)) := by
  refine xm_of hl ok_d_clear (Nat.le_of_ble_eq_true rfl) ?_
  show xw_w (xk_k N) l td_clear 0 [some (.ref c)] [] (n, u, σ, xr_0) (xe_w n u (fd_clear c σ))
  unfold fd_clear
  refine xw_aload0 dd_clear_0 ?_
  refine xw_iconst dd_clear_1 ki_0 ?_
  refine xw_lconst dd_clear_2 kl_0 ?_
  refine xw_cW dd_clear_3 (lk_d_clear_3 hi_c hk_c) ok_d_decode (md_decode hl hn h0_c hi_c hk_c) ⟨Nat.le_of_ble_eq_true rfl, Nat.le_of_ble_eq_true rfl⟩ ?_
  refine xw_lw (fun s1 e_s1 => ?_)
  exact xw_vret dd_clear_6 rfl
theorem jd_clear {c : Nat} {σ : xs_S} (hJ : jx_J σ) : jx_J (fd_clear c σ) := by
  unfold fd_clear
  refine xj_wl (fun s1 e_s1 => ?_)
  have hJ_s1 : jx_J s1 := by rw [e_s1]; exact (jd_decode hJ)
  exact hJ_s1
def fd_isCode (c : Nat) (σ : xs_S) : Int32 := (if (σ c 3) = (1 : Int32) then (1 : Int32) else (if (σ c 3) = (2 : Int32) then (1 : Int32) else (0 : Int32)))
set_option maxRecDepth 100000 in
set_option maxHeartbeats 4000000 in
theorem md_isCode {l : Launch} {N n u : Nat} {c : Nat} {σ : xs_S} (hl : l.stackTraces = false) (hn : 29 ≤ n) (h0_c : 0 < c) (hi_c : c < n) (hk_c : xk_k N c = (0, 0)) : xm_m (xk_k N) l td_isCode [.ref c] (n, u, σ, xr_0) (xe_v ei_i n u σ (fd_isCode c σ)) := by
  refine xm_of hl ok_d_isCode (Nat.le_of_ble_eq_true rfl) ?_
  show xw_w (xk_k N) l td_isCode 0 [some (.ref c)] [] (n, u, σ, xr_0) (xe_v ei_i n u σ (fd_isCode c σ))
  unfold fd_isCode
  refine xw_aload0 dd_isCode_0 ?_
  refine xw_getI dd_isCode_1 fl_d_22 (by decide) hi_c hk_c ?_
  refine xw_iconst dd_isCode_4 ki_1 ?_
  refine xw_icmp_eq' dd_isCode_5 rfl (fun h1 => ?_) (fun h1 => ?_)
  · refine xw_iconst dd_isCode_16 ki_1 ?_
    refine xw_goto dd_isCode_17 rfl ?_
    exact xw_zret dd_isCode_21 rfl (by decide)
  · refine xw_aload0 dd_isCode_8 ?_
    refine xw_getI dd_isCode_9 fl_d_22 (by decide) hi_c hk_c ?_
    refine xw_iconst dd_isCode_12 ki_2 ?_
    refine xw_icmp_ne' dd_isCode_13 rfl (fun h2 => ?_) (fun h2 => ?_)
    · refine xw_iconst dd_isCode_20 ki_0 ?_
      exact xw_zret dd_isCode_21 rfl (by decide)
    · refine xw_iconst dd_isCode_16 ki_1 ?_
      refine xw_goto dd_isCode_17 rfl ?_
      exact xw_zret dd_isCode_21 rfl (by decide)
def fd_isReadable (c : Nat) (σ : xs_S) : Int32 := (if (fd_isCode c σ) = 0 then (if (σ c 3) = (3 : Int32) then (1 : Int32) else (if (σ c 3) = (4 : Int32) then (1 : Int32) else (0 : Int32))) else (1 : Int32))
set_option maxRecDepth 100000 in
set_option maxHeartbeats 4000000 in
theorem md_isReadable {l : Launch} {N n u : Nat} {c : Nat} {σ : xs_S} (hl : l.stackTraces = false) (hn : 29 ≤ n) (h0_c : 0 < c) (hi_c : c < n) (hk_c : xk_k N c = (0, 0)) : xm_m (xk_k N) l td_isReadable [.ref c] (n, u, σ, xr_0) (xe_v ei_i n u σ (fd_isReadable c σ)) := by
  refine xm_of hl ok_d_isReadable (Nat.le_of_ble_eq_true rfl) ?_
  show xw_w (xk_k N) l td_isReadable 0 [some (.ref c)] [] (n, u, σ, xr_0) (xe_v ei_i n u σ (fd_isReadable c σ))
  unfold fd_isReadable
  refine xw_aload0 dd_isReadable_0 ?_
  refine xw_cVi dd_isReadable_1 (lk_d_isReadable_1 hi_c hk_c) ok_d_isCode (md_isCode hl hn h0_c hi_c hk_c) ⟨Nat.le_of_ble_eq_true rfl, Nat.le_of_ble_eq_true rfl⟩ ?_
  refine xw_if_ne' dd_isReadable_4 rfl (fun h1 => ?_) (fun h1 => ?_)
  · refine xw_iconst dd_isReadable_23 ki_1 ?_
    refine xw_goto dd_isReadable_24 rfl ?_
    exact xw_zret dd_isReadable_28 rfl (by decide)
  · refine xw_aload0 dd_isReadable_7 ?_
    refine xw_getI dd_isReadable_8 fl_d_22 (by decide) hi_c hk_c ?_
    refine xw_iconst dd_isReadable_11 ki_3 ?_
    refine xw_icmp_eq' dd_isReadable_12 rfl (fun h2 => ?_) (fun h2 => ?_)
    · refine xw_iconst dd_isReadable_23 ki_1 ?_
      refine xw_goto dd_isReadable_24 rfl ?_
      exact xw_zret dd_isReadable_28 rfl (by decide)
    · refine xw_aload0 dd_isReadable_15 ?_
      refine xw_getI dd_isReadable_16 fl_d_22 (by decide) hi_c hk_c ?_
      refine xw_iconst dd_isReadable_19 ki_4 ?_
      refine xw_icmp_ne' dd_isReadable_20 rfl (fun h3 => ?_) (fun h3 => ?_)
      · refine xw_iconst dd_isReadable_27 ki_0 ?_
        exact xw_zret dd_isReadable_28 rfl (by decide)
      · refine xw_iconst dd_isReadable_23 ki_1 ?_
        refine xw_goto dd_isReadable_24 rfl ?_
        exact xw_zret dd_isReadable_28 rfl (by decide)
theorem bi_i {c : Prop} [Decidable c] : (if c then (0 : Int32) else 1) &&& 1 = (if c then (0 : Int32) else 1) := by split <;> rfl
theorem bi_c {c : Nat} {σ : xs_S} : fd_isCode c σ &&& 1 = fd_isCode c σ := by
  unfold fd_isCode
  split
  · rfl
  · split <;> rfl
theorem bi_r {c : Nat} {σ : xs_S} : fd_isReadable c σ &&& 1 = fd_isReadable c σ := by
  unfold fd_isReadable
  repeat' (first | rfl | split)
def fr_loadData (a1 : Int32) (σ : xs_S) : xp_P Unit := (if (fr_isNull a1 σ) = 0 then xl_l ((fr_codeOf a1 σ)) (fun v2 => xp_b (fr_lookUp a1 14 σ) (fun b3 s4 => xl_l ((if (s4 14 3) = (2 : Int32) then (1 : Int32) else (if (s4 14 4) < (s4 3 6) then (0 : Int32) else (if (s4 14 4) < (fr_rplOf a1 s4) then (0 : Int32) else (1 : Int32))))) (fun v5 => xp_b (fx_refuse (if (fd_isReadable 14 s4) = 0 then (1 : Int32) else (if v5 = 0 then (1 : Int32) else (0 : Int32))) (13 : Int32) v2 s4) (fun b6 s7 => xp_b (fx_refuse (if (s7 14 6) = 0 then (1 : Int32) else (0 : Int32)) (11 : Int32) v2 s7) (fun b8 s9 => xl_l ((fd_copy 6 14 s9)) (fun s10 => (some (), s10))))))) else xl_l ((fd_clear 6 σ)) (fun s11 => xl_l ((xu_u s11 6 0 a1)) (fun s12 => (some (), s12))))
set_option maxRecDepth 100000 in
set_option maxHeartbeats 4000000 in
theorem mr_loadData {l : Launch} {N n u : Nat} {a1 : Int32} {σ : xs_S} (hl : l.stackTraces = false) (hn : 29 ≤ n) (hJ : jx_J σ) : xm_m (xk_k N) l tr_loadData [.ref 1, .int a1] (n, u, σ, xr_0) (xe_t eu_u n u (fr_loadData a1 σ)) := by
  refine xm_of hl ok_r_loadData (Nat.le_of_ble_eq_true rfl) ?_
  show xw_w (xk_k N) l tr_loadData 0 [some (.ref 1), some (.int a1), none, none] [] (n, u, σ, xr_0) (xe_t eu_u n u (fr_loadData a1 σ))
  unfold fr_loadData
  refine xw_iload1 dr_loadData_0 ?_
  refine xw_cVi dr_loadData_1 (lk_r_loadData_1) ok_r_isNull (mr_isNull hl hn) ⟨Nat.le_of_ble_eq_true rfl, Nat.le_of_ble_eq_true rfl⟩ ?_
  refine xw_if_eq' dr_loadData_4 rfl (fun h1 => ?_) (fun h1 => ?_)
  · refine xw_iload1 dr_loadData_29 ?_
    refine xw_cVi dr_loadData_30 (lk_r_loadData_30) ok_r_codeOf (mr_codeOf hl hn) ⟨Nat.le_of_ble_eq_true rfl, Nat.le_of_ble_eq_true rfl⟩ ?_
    refine xw_li (fun v2 e_v2 => ?_)
    refine xw_istore2 dr_loadData_33 (Nat.le_of_ble_eq_true rfl) rfl ?_
    refine xw_aload0 dr_loadData_34 ?_
    refine xw_iload1 dr_loadData_35 ?_
    refine xw_aload0 dr_loadData_36 ?_
    refine xw_getR dr_loadData_37 fl_r_42 (xl_n hn (by decide)) rfl r_1_5 ?_
    refine xw_cTu dr_loadData_40 (lk_r_loadData_40 (xl_n hn (by decide)) rfl) ok_r_lookUp (mr_lookUp hl hn (by decide) (xl_n hn (by decide)) rfl hJ) ⟨Nat.le_of_ble_eq_true rfl, Nat.le_of_ble_eq_true rfl⟩ rfl (fun b3 s4 h_s4 => ?_)
    have hJ_s4 : jx_J s4 := xj_o (jr_lookUp hJ) h_s4
    refine xw_aload0 dr_loadData_43 ?_
    refine xw_getR dr_loadData_44 fl_r_42 (xl_n hn (by decide)) rfl r_1_5 ?_
    refine xw_getI dr_loadData_47 fl_r_179 (by decide) (xl_n hn (by decide)) rfl ?_
    refine xw_iconst dr_loadData_50 ki_2 ?_
    refine xw_icmp_eq_mi (J := 90) (a := (1 : Int32)) (b := (if (s4 14 4) < (s4 3 6) then (0 : Int32) else (if (s4 14 4) < (fr_rplOf a1 s4) then (0 : Int32) else (1 : Int32)))) dr_loadData_51 rfl (fun _ E' k' => ?_) (fun _ E' k' => ?_) ?_
    · refine xw_iconst dr_loadData_85 ki_1 ?_
      refine xw_goto dr_loadData_86 rfl ?_
      exact k'
    · refine xw_aload0 dr_loadData_54 ?_
      refine xw_getR dr_loadData_55 fl_r_42 (xl_n hn (by decide)) rfl r_1_5 ?_
      refine xw_getI dr_loadData_58 fl_r_182 (by decide) (xl_n hn (by decide)) rfl ?_
      refine xw_aload0 dr_loadData_61 ?_
      refine xw_getR dr_loadData_62 fl_r_19 (xl_n hn (by decide)) rfl r_1_1 ?_
      refine xw_getI dr_loadData_65 fl_r_157 (by decide) (xl_n hn (by decide)) rfl ?_
      refine xw_icmp_lt_mi (J := 90) (a := (0 : Int32)) (b := (if (s4 14 4) < (fr_rplOf a1 s4) then (0 : Int32) else (1 : Int32))) dr_loadData_68 rfl (fun _ E' k' => ?_) (fun _ E' k' => ?_) ?_
      · refine xw_iconst dr_loadData_89 ki_0 ?_
        exact k'
      · refine xw_aload0 dr_loadData_71 ?_
        refine xw_getR dr_loadData_72 fl_r_42 (xl_n hn (by decide)) rfl r_1_5 ?_
        refine xw_getI dr_loadData_75 fl_r_182 (by decide) (xl_n hn (by decide)) rfl ?_
        refine xw_iload1 dr_loadData_78 ?_
        refine xw_cVi dr_loadData_79 (lk_r_loadData_79) ok_r_rplOf (mr_rplOf hl hn) ⟨Nat.le_of_ble_eq_true rfl, Nat.le_of_ble_eq_true rfl⟩ ?_
        refine xw_icmp_lt_mi (J := 90) (a := (0 : Int32)) (b := (1 : Int32)) dr_loadData_82 rfl (fun _ E' k' => ?_) (fun _ E' k' => ?_) ?_
        · refine xw_iconst dr_loadData_89 ki_0 ?_
          exact k'
        · refine xw_iconst dr_loadData_85 ki_1 ?_
          refine xw_goto dr_loadData_86 rfl ?_
          exact k'
        exact k'
      exact k'
    refine xw_li (fun v5 e_v5 => ?_)
    refine xw_istore3 dr_loadData_90 (Nat.le_of_ble_eq_true rfl) rfl ?_
    refine xw_aload0 dr_loadData_91 ?_
    refine xw_getR dr_loadData_92 fl_r_10 (xl_n hn (by decide)) rfl r_1_0 ?_
    refine xw_aload0 dr_loadData_95 ?_
    refine xw_getR dr_loadData_96 fl_r_42 (xl_n hn (by decide)) rfl r_1_5 ?_
    refine xw_cVi dr_loadData_99 (lk_r_loadData_99 (xl_n hn (by decide)) rfl) ok_d_isReadable (md_isReadable hl hn (by decide) (xl_n hn (by decide)) rfl) ⟨Nat.le_of_ble_eq_true rfl, Nat.le_of_ble_eq_true rfl⟩ ?_
    refine xw_if_eq_mi (J := 114) (a := (1 : Int32)) (b := (if v5 = 0 then (1 : Int32) else (0 : Int32))) dr_loadData_102 rfl (fun _ E' k' => ?_) (fun _ E' k' => ?_) ?_
    · refine xw_iconst dr_loadData_109 ki_1 ?_
      refine xw_goto dr_loadData_110 rfl ?_
      exact k'
    · refine xw_iload3 dr_loadData_105 ?_
      refine xw_if_ne_mi (J := 114) (a := (1 : Int32)) (b := (0 : Int32)) dr_loadData_106 rfl (fun _ E' k' => ?_) (fun _ E' k' => ?_) ?_
      · refine xw_iconst dr_loadData_113 ki_0 ?_
        exact k'
      · refine xw_iconst dr_loadData_109 ki_1 ?_
        refine xw_goto dr_loadData_110 rfl ?_
        exact k'
      exact k'
    refine xw_bipush dr_loadData_114 kb_13 ?_
    refine xw_iload2 dr_loadData_116 ?_
    refine xw_cTu dr_loadData_117 (lk_r_loadData_117 (xl_n hn (by decide)) rfl) ok_x_refuse (mx_refuse hl hn) ⟨Nat.le_of_ble_eq_true rfl, Nat.le_of_ble_eq_true rfl⟩ rfl (fun b6 s7 h_s7 => ?_)
    have hJ_s7 : jx_J s7 := xj_o (jx_refuse hJ_s4) h_s7
    refine xw_aload0 dr_loadData_120 ?_
    refine xw_getR dr_loadData_121 fl_r_10 (xl_n hn (by decide)) rfl r_1_0 ?_
    refine xw_aload0 dr_loadData_124 ?_
    refine xw_getR dr_loadData_125 fl_r_42 (xl_n hn (by decide)) rfl r_1_5 ?_
    refine xw_getI dr_loadData_128 fl_r_231 (by decide) (xl_n hn (by decide)) rfl ?_
    refine xw_if_ne_mi (J := 139) (a := (1 : Int32)) (b := (0 : Int32)) dr_loadData_131 rfl (fun _ E' k' => ?_) (fun _ E' k' => ?_) ?_
    · refine xw_iconst dr_loadData_138 ki_0 ?_
      exact k'
    · refine xw_iconst dr_loadData_134 ki_1 ?_
      refine xw_goto dr_loadData_135 rfl ?_
      exact k'
    refine xw_bipush dr_loadData_139 kb_11 ?_
    refine xw_iload2 dr_loadData_141 ?_
    refine xw_cTu dr_loadData_142 (lk_r_loadData_142 (xl_n hn (by decide)) rfl) ok_x_refuse (mx_refuse hl hn) ⟨Nat.le_of_ble_eq_true rfl, Nat.le_of_ble_eq_true rfl⟩ rfl (fun b8 s9 h_s9 => ?_)
    have hJ_s9 : jx_J s9 := xj_o (jx_refuse hJ_s7) h_s9
    refine xw_aload0 dr_loadData_145 ?_
    refine xw_getR dr_loadData_146 fl_r_19 (xl_n hn (by decide)) rfl r_1_1 ?_
    refine xw_getR dr_loadData_149 fl_r_148 (xl_n hn (by decide)) rfl r_3_2 ?_
    refine xw_aload0 dr_loadData_152 ?_
    refine xw_getR dr_loadData_153 fl_r_42 (xl_n hn (by decide)) rfl r_1_5 ?_
    refine xw_cW dr_loadData_156 (lk_r_loadData_156 (xl_n hn (by decide)) rfl) ok_d_copy (md_copy hl hn (by decide) (xl_n hn (by decide)) rfl (by decide) (xl_n hn (by decide)) rfl) ⟨Nat.le_of_ble_eq_true rfl, Nat.le_of_ble_eq_true rfl⟩ ?_
    refine xw_lw (fun s10 e_s10 => ?_)
    have hJ_s10 : jx_J s10 := by rw [e_s10]; exact (jd_copy (by decide) hJ_s9)
    exact xw_vret dr_loadData_159 rfl
  · refine xw_aload0 dr_loadData_7 ?_
    refine xw_getR dr_loadData_8 fl_r_19 (xl_n hn (by decide)) rfl r_1_1 ?_
    refine xw_getR dr_loadData_11 fl_r_148 (xl_n hn (by decide)) rfl r_3_2 ?_
    refine xw_cW dr_loadData_14 (lk_r_loadData_14 (xl_n hn (by decide)) rfl) ok_d_clear (md_clear hl hn (by decide) (xl_n hn (by decide)) rfl) ⟨Nat.le_of_ble_eq_true rfl, Nat.le_of_ble_eq_true rfl⟩ ?_
    refine xw_lw (fun s11 e_s11 => ?_)
    have hJ_s11 : jx_J s11 := by rw [e_s11]; exact (jd_clear hJ)
    refine xw_aload0 dr_loadData_17 ?_
    refine xw_getR dr_loadData_18 fl_r_19 (xl_n hn (by decide)) rfl r_1_1 ?_
    refine xw_getR dr_loadData_21 fl_r_148 (xl_n hn (by decide)) rfl r_3_2 ?_
    refine xw_iload1 dr_loadData_24 ?_
    refine xw_putI dr_loadData_25 fl_r_142 nf_0_0 (by decide) (xl_n hn (by decide)) rfl ?_
    refine xw_lw (fun s12 e_s12 => ?_)
    have hJ_s12 : jx_J s12 := by rw [e_s12]; exact (jx_u hJ_s11 (by decide))
    exact xw_vret dr_loadData_28 rfl
theorem jr_loadData {a1 : Int32} {σ : xs_S} (hJ : jx_J σ) : jx_J (fr_loadData a1 σ).2 := by
  unfold fr_loadData
  refine xj_f (fun h1 => ?_) (fun h1 => ?_)
  · refine xj_l (fun v2 e_v2 => ?_)
    refine xj_b (jr_lookUp hJ) (fun b3 s4 h_s4 hJ_s4 => ?_)
    refine xj_l (fun v5 e_v5 => ?_)
    refine xj_b (jx_refuse hJ_s4) (fun b6 s7 h_s7 hJ_s7 => ?_)
    refine xj_b (jx_refuse hJ_s7) (fun b8 s9 h_s9 hJ_s9 => ?_)
    refine xj_l (fun s10 e_s10 => ?_)
    have hJ_s10 : jx_J s10 := by rw [e_s10]; exact (jd_copy (by decide) hJ_s9)
    exact hJ_s10
  · refine xj_l (fun s11 e_s11 => ?_)
    have hJ_s11 : jx_J s11 := by rw [e_s11]; exact (jd_clear hJ)
    refine xj_l (fun s12 e_s12 => ?_)
    have hJ_s12 : jx_J s12 := by rw [e_s12]; exact (jx_u hJ_s11 (by decide))
    exact hJ_s12
def fr_readVectorGate (a1 : Int32) (a2 : Int32) (σ : xs_S) : xp_P Unit := xl_l ((((4 : Int32) * a1) + (2 : Int32))) (fun v1 => xp_b (fx_refuse (if a1 < (16 : Int32) then (0 : Int32) else (1 : Int32)) (13 : Int32) v1 σ) (fun b2 s3 => xp_b (fm_eightAt ((s3 1 11) + ((8 : Int32) * a1)) s3) (fun b4 s5 => xl_l ((fd_decode 13 (0 : Int32) b4 s5)) (fun s6 => xl_l ((if (s6 13 3) = (8 : Int32) then (1 : Int32) else (if (s6 13 3) = (9 : Int32) then (1 : Int32) else (0 : Int32)))) (fun v7 => xp_b (fx_refuse (if v7 = 0 then (1 : Int32) else (if a2 = 0 then (0 : Int32) else (if (s6 3 6) ≤ (s6 13 4) then (0 : Int32) else (1 : Int32)))) (13 : Int32) v1 s6) (fun b8 s9 => xp_b (fx_refuse (if (s9 13 6) = 0 then (1 : Int32) else (0 : Int32)) (11 : Int32) v1 s9) (fun b10 s11 => (some (), s11))))))))
set_option maxRecDepth 100000 in
set_option maxHeartbeats 4000000 in
theorem mr_readVectorGate {l : Launch} {N n u : Nat} {a1 : Int32} {a2 : Int32} {σ : xs_S} (hl : l.stackTraces = false) (hn : 29 ≤ n) (hJ : jx_J σ) : xm_m (xk_k N) l tr_readVectorGate [.ref 1, .int a1, .int a2] (n, u, σ, xr_0) (xe_t eu_u n u (fr_readVectorGate a1 a2 σ)) := by
  refine xm_of hl ok_r_readVectorGate (Nat.le_of_ble_eq_true rfl) ?_
  show xw_w (xk_k N) l tr_readVectorGate 0 [some (.ref 1), some (.int a1), some (.int a2), none, none] [] (n, u, σ, xr_0) (xe_t eu_u n u (fr_readVectorGate a1 a2 σ))
  unfold fr_readVectorGate
  refine xw_iconst dr_readVectorGate_0 ki_4 ?_
  refine xw_iload1 dr_readVectorGate_1 ?_
  refine xw_imul dr_readVectorGate_2 ?_
  refine xw_iconst dr_readVectorGate_3 ki_2 ?_
  refine xw_iadd dr_readVectorGate_4 ?_
  refine xw_li (fun v1 e_v1 => ?_)
  refine xw_istore3 dr_readVectorGate_5 (Nat.le_of_ble_eq_true rfl) rfl ?_
  refine xw_aload0 dr_readVectorGate_6 ?_
  refine xw_getR dr_readVectorGate_7 fl_r_10 (xl_n hn (by decide)) rfl r_1_0 ?_
  refine xw_iload1 dr_readVectorGate_10 ?_
  refine xw_bipush dr_readVectorGate_11 kb_16 ?_
  refine xw_icmp_lt_mi (J := 21) (a := (0 : Int32)) (b := (1 : Int32)) dr_readVectorGate_13 rfl (fun _ E' k' => ?_) (fun _ E' k' => ?_) ?_
  · refine xw_iconst dr_readVectorGate_20 ki_0 ?_
    exact k'
  · refine xw_iconst dr_readVectorGate_16 ki_1 ?_
    refine xw_goto dr_readVectorGate_17 rfl ?_
    exact k'
  refine xw_bipush dr_readVectorGate_21 kb_13 ?_
  refine xw_iload3 dr_readVectorGate_23 ?_
  refine xw_cTu dr_readVectorGate_24 (lk_r_readVectorGate_24 (xl_n hn (by decide)) rfl) ok_x_refuse (mx_refuse hl hn) ⟨Nat.le_of_ble_eq_true rfl, Nat.le_of_ble_eq_true rfl⟩ rfl (fun b2 s3 h_s3 => ?_)
  have hJ_s3 : jx_J s3 := xj_o (jx_refuse hJ) h_s3
  refine xw_aload0 dr_readVectorGate_27 ?_
  refine xw_getR dr_readVectorGate_28 fl_r_38 (xl_n hn (by decide)) rfl r_1_4 ?_
  refine xw_iconst dr_readVectorGate_31 ki_0 ?_
  refine xw_aload0 dr_readVectorGate_32 ?_
  refine xw_getR dr_readVectorGate_33 fl_r_31 (xl_n hn (by decide)) rfl r_1_3 ?_
  refine xw_aload0 dr_readVectorGate_36 ?_
  refine xw_getI dr_readVectorGate_37 fl_r_74 (by decide) (xl_n hn (by decide)) rfl ?_
  refine xw_bipush dr_readVectorGate_40 kb_8 ?_
  refine xw_iload1 dr_readVectorGate_42 ?_
  refine xw_imul dr_readVectorGate_43 ?_
  refine xw_iadd dr_readVectorGate_44 ?_
  refine xw_cTl dr_readVectorGate_45 (lk_r_readVectorGate_45 (xl_n hn (by decide)) rfl) ok_m_eightAt (mm_eightAt hl hn hJ_s3) ⟨Nat.le_of_ble_eq_true rfl, Nat.le_of_ble_eq_true rfl⟩ rfl (fun b4 s5 h_s5 => ?_)
  have hJ_s5 : jx_J s5 := xj_o (jm_eightAt hJ_s3) h_s5
  refine xw_cW dr_readVectorGate_48 (lk_r_readVectorGate_48 (xl_n hn (by decide)) rfl) ok_d_decode (md_decode hl hn (by decide) (xl_n hn (by decide)) rfl) ⟨Nat.le_of_ble_eq_true rfl, Nat.le_of_ble_eq_true rfl⟩ ?_
  refine xw_lw (fun s6 e_s6 => ?_)
  have hJ_s6 : jx_J s6 := by rw [e_s6]; exact (jd_decode hJ_s5)
  refine xw_aload0 dr_readVectorGate_51 ?_
  refine xw_getR dr_readVectorGate_52 fl_r_38 (xl_n hn (by decide)) rfl r_1_4 ?_
  refine xw_getI dr_readVectorGate_55 fl_r_179 (by decide) (xl_n hn (by decide)) rfl ?_
  refine xw_bipush dr_readVectorGate_58 kb_8 ?_
  refine xw_icmp_eq_mi (J := 80) (a := (1 : Int32)) (b := (if (s6 13 3) = (9 : Int32) then (1 : Int32) else (0 : Int32))) dr_readVectorGate_60 rfl (fun _ E' k' => ?_) (fun _ E' k' => ?_) ?_
  · refine xw_iconst dr_readVectorGate_75 ki_1 ?_
    refine xw_goto dr_readVectorGate_76 rfl ?_
    exact k'
  · refine xw_aload0 dr_readVectorGate_63 ?_
    refine xw_getR dr_readVectorGate_64 fl_r_38 (xl_n hn (by decide)) rfl r_1_4 ?_
    refine xw_getI dr_readVectorGate_67 fl_r_179 (by decide) (xl_n hn (by decide)) rfl ?_
    refine xw_bipush dr_readVectorGate_70 kb_9 ?_
    refine xw_icmp_ne_mi (J := 80) (a := (1 : Int32)) (b := (0 : Int32)) dr_readVectorGate_72 rfl (fun _ E' k' => ?_) (fun _ E' k' => ?_) ?_
    · refine xw_iconst dr_readVectorGate_79 ki_0 ?_
      exact k'
    · refine xw_iconst dr_readVectorGate_75 ki_1 ?_
      refine xw_goto dr_readVectorGate_76 rfl ?_
      exact k'
    exact k'
  refine xw_li (fun v7 e_v7 => ?_)
  refine xw_istore4 dr_readVectorGate_80 (Nat.le_of_ble_eq_true rfl) rfl ?_
  refine xw_aload0 dr_readVectorGate_82 ?_
  refine xw_getR dr_readVectorGate_83 fl_r_10 (xl_n hn (by decide)) rfl r_1_0 ?_
  refine xw_iload4 dr_readVectorGate_86 ?_
  refine xw_if_eq_mi (J := 117) (a := (1 : Int32)) (b := (if a2 = 0 then (0 : Int32) else (if (s6 3 6) ≤ (s6 13 4) then (0 : Int32) else (1 : Int32)))) dr_readVectorGate_88 rfl (fun _ E' k' => ?_) (fun _ E' k' => ?_) ?_
  · refine xw_iconst dr_readVectorGate_112 ki_1 ?_
    refine xw_goto dr_readVectorGate_113 rfl ?_
    exact k'
  · refine xw_iload2 dr_readVectorGate_91 ?_
    refine xw_if_eq_mi (J := 117) (a := (0 : Int32)) (b := (if (s6 3 6) ≤ (s6 13 4) then (0 : Int32) else (1 : Int32))) dr_readVectorGate_92 rfl (fun _ E' k' => ?_) (fun _ E' k' => ?_) ?_
    · refine xw_iconst dr_readVectorGate_116 ki_0 ?_
      exact k'
    · refine xw_aload0 dr_readVectorGate_95 ?_
      refine xw_getR dr_readVectorGate_96 fl_r_38 (xl_n hn (by decide)) rfl r_1_4 ?_
      refine xw_getI dr_readVectorGate_99 fl_r_182 (by decide) (xl_n hn (by decide)) rfl ?_
      refine xw_aload0 dr_readVectorGate_102 ?_
      refine xw_getR dr_readVectorGate_103 fl_r_19 (xl_n hn (by decide)) rfl r_1_1 ?_
      refine xw_getI dr_readVectorGate_106 fl_r_157 (by decide) (xl_n hn (by decide)) rfl ?_
      refine xw_icmp_ge_mi (J := 117) (a := (0 : Int32)) (b := (1 : Int32)) dr_readVectorGate_109 rfl (fun _ E' k' => ?_) (fun _ E' k' => ?_) ?_
      · refine xw_iconst dr_readVectorGate_116 ki_0 ?_
        exact k'
      · refine xw_iconst dr_readVectorGate_112 ki_1 ?_
        refine xw_goto dr_readVectorGate_113 rfl ?_
        exact k'
      exact k'
    exact k'
  refine xw_bipush dr_readVectorGate_117 kb_13 ?_
  refine xw_iload3 dr_readVectorGate_119 ?_
  refine xw_cTu dr_readVectorGate_120 (lk_r_readVectorGate_120 (xl_n hn (by decide)) rfl) ok_x_refuse (mx_refuse hl hn) ⟨Nat.le_of_ble_eq_true rfl, Nat.le_of_ble_eq_true rfl⟩ rfl (fun b8 s9 h_s9 => ?_)
  have hJ_s9 : jx_J s9 := xj_o (jx_refuse hJ_s6) h_s9
  refine xw_aload0 dr_readVectorGate_123 ?_
  refine xw_getR dr_readVectorGate_124 fl_r_10 (xl_n hn (by decide)) rfl r_1_0 ?_
  refine xw_aload0 dr_readVectorGate_127 ?_
  refine xw_getR dr_readVectorGate_128 fl_r_38 (xl_n hn (by decide)) rfl r_1_4 ?_
  refine xw_getI dr_readVectorGate_131 fl_r_231 (by decide) (xl_n hn (by decide)) rfl ?_
  refine xw_if_ne_mi (J := 142) (a := (1 : Int32)) (b := (0 : Int32)) dr_readVectorGate_134 rfl (fun _ E' k' => ?_) (fun _ E' k' => ?_) ?_
  · refine xw_iconst dr_readVectorGate_141 ki_0 ?_
    exact k'
  · refine xw_iconst dr_readVectorGate_137 ki_1 ?_
    refine xw_goto dr_readVectorGate_138 rfl ?_
    exact k'
  refine xw_bipush dr_readVectorGate_142 kb_11 ?_
  refine xw_iload3 dr_readVectorGate_144 ?_
  refine xw_cTu dr_readVectorGate_145 (lk_r_readVectorGate_145 (xl_n hn (by decide)) rfl) ok_x_refuse (mx_refuse hl hn) ⟨Nat.le_of_ble_eq_true rfl, Nat.le_of_ble_eq_true rfl⟩ rfl (fun b10 s11 h_s11 => ?_)
  have hJ_s11 : jx_J s11 := xj_o (jx_refuse hJ_s9) h_s11
  exact xw_vret dr_readVectorGate_148 rfl
theorem jr_readVectorGate {a1 : Int32} {a2 : Int32} {σ : xs_S} (hJ : jx_J σ) : jx_J (fr_readVectorGate a1 a2 σ).2 := by
  unfold fr_readVectorGate
  refine xj_l (fun v1 e_v1 => ?_)
  refine xj_b (jx_refuse hJ) (fun b2 s3 h_s3 hJ_s3 => ?_)
  refine xj_b (jm_eightAt hJ_s3) (fun b4 s5 h_s5 hJ_s5 => ?_)
  refine xj_l (fun s6 e_s6 => ?_)
  have hJ_s6 : jx_J s6 := by rw [e_s6]; exact (jd_decode hJ_s5)
  refine xj_l (fun v7 e_v7 => ?_)
  refine xj_b (jx_refuse hJ_s6) (fun b8 s9 h_s9 hJ_s9 => ?_)
  refine xj_b (jx_refuse hJ_s9) (fun b10 s11 h_s11 hJ_s11 => ?_)
  exact hJ_s11
def fr_mayBeEntered (a1 : Nat) (σ : xs_S) : Int32 := (if (σ a1 3) = (1 : Int32) then (if (σ a1 4) = (σ 3 6) then (1 : Int32) else (if (σ a1 3) = (2 : Int32) then (if (σ 3 6) < (σ a1 4) then (0 : Int32) else (1 : Int32)) else (0 : Int32))) else (if (σ a1 3) = (2 : Int32) then (if (σ 3 6) < (σ a1 4) then (0 : Int32) else (1 : Int32)) else (0 : Int32)))
set_option maxRecDepth 100000 in
set_option maxHeartbeats 4000000 in
theorem mr_mayBeEntered {l : Launch} {N n u : Nat} {a1 : Nat} {σ : xs_S} (hl : l.stackTraces = false) (hn : 29 ≤ n) (h0_a1 : 0 < a1) (hi_a1 : a1 < n) (hk_a1 : xk_k N a1 = (0, 0)) : xm_m (xk_k N) l tr_mayBeEntered [.ref 1, .ref a1] (n, u, σ, xr_0) (xe_v ei_i n u σ (fr_mayBeEntered a1 σ)) := by
  refine xm_of hl ok_r_mayBeEntered (Nat.le_of_ble_eq_true rfl) ?_
  show xw_w (xk_k N) l tr_mayBeEntered 0 [some (.ref 1), some (.ref a1)] [] (n, u, σ, xr_0) (xe_v ei_i n u σ (fr_mayBeEntered a1 σ))
  unfold fr_mayBeEntered
  refine xw_aload1 dr_mayBeEntered_0 ?_
  refine xw_getI dr_mayBeEntered_1 fl_r_179 (by decide) hi_a1 hk_a1 ?_
  refine xw_iconst dr_mayBeEntered_4 ki_1 ?_
  refine xw_icmp_ne' dr_mayBeEntered_5 rfl (fun h1 => ?_) (fun h1 => ?_)
  · refine xw_aload1 dr_mayBeEntered_22 ?_
    refine xw_getI dr_mayBeEntered_23 fl_r_179 (by decide) hi_a1 hk_a1 ?_
    refine xw_iconst dr_mayBeEntered_26 ki_2 ?_
    refine xw_icmp_ne' dr_mayBeEntered_27 rfl (fun h2 => ?_) (fun h2 => ?_)
    · refine xw_iconst dr_mayBeEntered_48 ki_0 ?_
      exact xw_zret dr_mayBeEntered_49 rfl (by decide)
    · refine xw_aload1 dr_mayBeEntered_30 ?_
      refine xw_getI dr_mayBeEntered_31 fl_r_182 (by decide) hi_a1 hk_a1 ?_
      refine xw_aload0 dr_mayBeEntered_34 ?_
      refine xw_getR dr_mayBeEntered_35 fl_r_19 (xl_n hn (by decide)) rfl r_1_1 ?_
      refine xw_getI dr_mayBeEntered_38 fl_r_157 (by decide) (xl_n hn (by decide)) rfl ?_
      refine xw_icmp_gt' dr_mayBeEntered_41 rfl (fun h3 => ?_) (fun h3 => ?_)
      · refine xw_iconst dr_mayBeEntered_48 ki_0 ?_
        exact xw_zret dr_mayBeEntered_49 rfl (by decide)
      · refine xw_iconst dr_mayBeEntered_44 ki_1 ?_
        refine xw_goto dr_mayBeEntered_45 rfl ?_
        exact xw_zret dr_mayBeEntered_49 rfl (by decide)
  · refine xw_aload1 dr_mayBeEntered_8 ?_
    refine xw_getI dr_mayBeEntered_9 fl_r_182 (by decide) hi_a1 hk_a1 ?_
    refine xw_aload0 dr_mayBeEntered_12 ?_
    refine xw_getR dr_mayBeEntered_13 fl_r_19 (xl_n hn (by decide)) rfl r_1_1 ?_
    refine xw_getI dr_mayBeEntered_16 fl_r_157 (by decide) (xl_n hn (by decide)) rfl ?_
    refine xw_icmp_eq' dr_mayBeEntered_19 rfl (fun h4 => ?_) (fun h4 => ?_)
    · refine xw_iconst dr_mayBeEntered_44 ki_1 ?_
      refine xw_goto dr_mayBeEntered_45 rfl ?_
      exact xw_zret dr_mayBeEntered_49 rfl (by decide)
    · refine xw_aload1 dr_mayBeEntered_22 ?_
      refine xw_getI dr_mayBeEntered_23 fl_r_179 (by decide) hi_a1 hk_a1 ?_
      refine xw_iconst dr_mayBeEntered_26 ki_2 ?_
      refine xw_icmp_ne' dr_mayBeEntered_27 rfl (fun h5 => ?_) (fun h5 => ?_)
      · refine xw_iconst dr_mayBeEntered_48 ki_0 ?_
        exact xw_zret dr_mayBeEntered_49 rfl (by decide)
      · refine xw_aload1 dr_mayBeEntered_30 ?_
        refine xw_getI dr_mayBeEntered_31 fl_r_182 (by decide) hi_a1 hk_a1 ?_
        refine xw_aload0 dr_mayBeEntered_34 ?_
        refine xw_getR dr_mayBeEntered_35 fl_r_19 (xl_n hn (by decide)) rfl r_1_1 ?_
        refine xw_getI dr_mayBeEntered_38 fl_r_157 (by decide) (xl_n hn (by decide)) rfl ?_
        refine xw_icmp_gt' dr_mayBeEntered_41 rfl (fun h6 => ?_) (fun h6 => ?_)
        · refine xw_iconst dr_mayBeEntered_48 ki_0 ?_
          exact xw_zret dr_mayBeEntered_49 rfl (by decide)
        · refine xw_iconst dr_mayBeEntered_44 ki_1 ?_
          refine xw_goto dr_mayBeEntered_45 rfl ?_
          exact xw_zret dr_mayBeEntered_49 rfl (by decide)
def fr_findTarget (a1 : Int32) (σ : xs_S) : xp_P Unit := xl_l ((σ 13 2)) (fun v1 => xp_b (fx_refuse (fr_isNull v1 σ) (13 : Int32) (0 : Int32) σ) (fun b2 s3 => xp_b (fr_lookUp v1 14 s3) (fun b4 s5 => xl_l ((if a1 = 0 then (fr_mayBeEntered 14 s5) else (if (fd_isCode 14 s5) = 0 then (0 : Int32) else (if (s5 3 6) < (s5 14 4) then (0 : Int32) else (1 : Int32))))) (fun v6 => xp_b (fx_refuse (if v6 = 0 then (1 : Int32) else (0 : Int32)) (13 : Int32) (fr_codeOf v1 s5) s5) (fun b7 s8 => xp_b (fx_refuse (if (s8 14 6) = 0 then (1 : Int32) else (0 : Int32)) (11 : Int32) (fr_codeOf v1 s8) s8) (fun b9 s10 => (some (), s10)))))))
set_option maxRecDepth 100000 in
set_option maxHeartbeats 4000000 in
theorem mr_findTarget {l : Launch} {N n u : Nat} {a1 : Int32} {σ : xs_S} (hl : l.stackTraces = false) (hn : 29 ≤ n) (hJ : jx_J σ) : xm_m (xk_k N) l tr_findTarget [.ref 1, .int a1] (n, u, σ, xr_0) (xe_t eu_u n u (fr_findTarget a1 σ)) := by
  refine xm_of hl ok_r_findTarget (Nat.le_of_ble_eq_true rfl) ?_
  show xw_w (xk_k N) l tr_findTarget 0 [some (.ref 1), some (.int a1), none, none] [] (n, u, σ, xr_0) (xe_t eu_u n u (fr_findTarget a1 σ))
  unfold fr_findTarget
  refine xw_aload0 dr_findTarget_0 ?_
  refine xw_getR dr_findTarget_1 fl_r_38 (xl_n hn (by decide)) rfl r_1_4 ?_
  refine xw_getI dr_findTarget_4 fl_r_176 (by decide) (xl_n hn (by decide)) rfl ?_
  refine xw_li (fun v1 e_v1 => ?_)
  refine xw_istore2 dr_findTarget_7 (Nat.le_of_ble_eq_true rfl) rfl ?_
  refine xw_aload0 dr_findTarget_8 ?_
  refine xw_getR dr_findTarget_9 fl_r_10 (xl_n hn (by decide)) rfl r_1_0 ?_
  refine xw_iload2 dr_findTarget_12 ?_
  refine xw_cVi dr_findTarget_13 (lk_r_findTarget_13) ok_r_isNull (mr_isNull hl hn) ⟨Nat.le_of_ble_eq_true rfl, Nat.le_of_ble_eq_true rfl⟩ ?_
  refine xw_bipush dr_findTarget_16 kb_13 ?_
  refine xw_iconst dr_findTarget_18 ki_0 ?_
  refine xw_cTu dr_findTarget_19 (lk_r_findTarget_19 (xl_n hn (by decide)) rfl) ok_x_refuse (mx_refuse hl hn) ⟨Nat.le_of_ble_eq_true rfl, Nat.le_of_ble_eq_true rfl⟩ rfl (fun b2 s3 h_s3 => ?_)
  have hJ_s3 : jx_J s3 := xj_o (jx_refuse hJ) h_s3
  refine xw_aload0 dr_findTarget_22 ?_
  refine xw_iload2 dr_findTarget_23 ?_
  refine xw_aload0 dr_findTarget_24 ?_
  refine xw_getR dr_findTarget_25 fl_r_42 (xl_n hn (by decide)) rfl r_1_5 ?_
  refine xw_cTu dr_findTarget_28 (lk_r_findTarget_28 (xl_n hn (by decide)) rfl) ok_r_lookUp (mr_lookUp hl hn (by decide) (xl_n hn (by decide)) rfl hJ_s3) ⟨Nat.le_of_ble_eq_true rfl, Nat.le_of_ble_eq_true rfl⟩ rfl (fun b4 s5 h_s5 => ?_)
  have hJ_s5 : jx_J s5 := xj_o (jr_lookUp hJ_s3) h_s5
  refine xw_iload1 dr_findTarget_31 ?_
  refine xw_if_eq_mi (J := 78) (a := (fr_mayBeEntered 14 s5)) (b := (if (fd_isCode 14 s5) = 0 then (0 : Int32) else (if (s5 3 6) < (s5 14 4) then (0 : Int32) else (1 : Int32)))) dr_findTarget_32 rfl (fun _ E' k' => ?_) (fun _ E' k' => ?_) ?_
  · refine xw_aload0 dr_findTarget_70 ?_
    refine xw_aload0 dr_findTarget_71 ?_
    refine xw_getR dr_findTarget_72 fl_r_42 (xl_n hn (by decide)) rfl r_1_5 ?_
    refine xw_cVi dr_findTarget_75 (lk_r_findTarget_75 (xl_n hn (by decide)) rfl) ok_r_mayBeEntered (mr_mayBeEntered hl hn (by decide) (xl_n hn (by decide)) rfl) ⟨Nat.le_of_ble_eq_true rfl, Nat.le_of_ble_eq_true rfl⟩ ?_
    exact k'
  · refine xw_aload0 dr_findTarget_35 ?_
    refine xw_getR dr_findTarget_36 fl_r_42 (xl_n hn (by decide)) rfl r_1_5 ?_
    refine xw_cVi dr_findTarget_39 (lk_r_findTarget_39 (xl_n hn (by decide)) rfl) ok_d_isCode (md_isCode hl hn (by decide) (xl_n hn (by decide)) rfl) ⟨Nat.le_of_ble_eq_true rfl, Nat.le_of_ble_eq_true rfl⟩ ?_
    refine xw_if_eq_mi (J := 78) (a := (0 : Int32)) (b := (if (s5 3 6) < (s5 14 4) then (0 : Int32) else (1 : Int32))) dr_findTarget_42 rfl (fun _ E' k' => ?_) (fun _ E' k' => ?_) ?_
    · refine xw_iconst dr_findTarget_66 ki_0 ?_
      refine xw_goto dr_findTarget_67 rfl ?_
      exact k'
    · refine xw_aload0 dr_findTarget_45 ?_
      refine xw_getR dr_findTarget_46 fl_r_42 (xl_n hn (by decide)) rfl r_1_5 ?_
      refine xw_getI dr_findTarget_49 fl_r_182 (by decide) (xl_n hn (by decide)) rfl ?_
      refine xw_aload0 dr_findTarget_52 ?_
      refine xw_getR dr_findTarget_53 fl_r_19 (xl_n hn (by decide)) rfl r_1_1 ?_
      refine xw_getI dr_findTarget_56 fl_r_157 (by decide) (xl_n hn (by decide)) rfl ?_
      refine xw_icmp_gt_mi (J := 78) (a := (0 : Int32)) (b := (1 : Int32)) dr_findTarget_59 rfl (fun _ E' k' => ?_) (fun _ E' k' => ?_) ?_
      · refine xw_iconst dr_findTarget_66 ki_0 ?_
        refine xw_goto dr_findTarget_67 rfl ?_
        exact k'
      · refine xw_iconst dr_findTarget_62 ki_1 ?_
        refine xw_goto dr_findTarget_63 rfl ?_
        exact k'
      exact k'
    exact k'
  refine xw_li (fun v6 e_v6 => ?_)
  refine xw_istore3 dr_findTarget_78 (Nat.le_of_ble_eq_true rfl) rfl ?_
  refine xw_aload0 dr_findTarget_79 ?_
  refine xw_getR dr_findTarget_80 fl_r_10 (xl_n hn (by decide)) rfl r_1_0 ?_
  refine xw_iload3 dr_findTarget_83 ?_
  refine xw_if_ne_mi (J := 92) (a := (1 : Int32)) (b := (0 : Int32)) dr_findTarget_84 rfl (fun _ E' k' => ?_) (fun _ E' k' => ?_) ?_
  · refine xw_iconst dr_findTarget_91 ki_0 ?_
    exact k'
  · refine xw_iconst dr_findTarget_87 ki_1 ?_
    refine xw_goto dr_findTarget_88 rfl ?_
    exact k'
  refine xw_bipush dr_findTarget_92 kb_13 ?_
  refine xw_iload2 dr_findTarget_94 ?_
  refine xw_cVi dr_findTarget_95 (lk_r_findTarget_95) ok_r_codeOf (mr_codeOf hl hn) ⟨Nat.le_of_ble_eq_true rfl, Nat.le_of_ble_eq_true rfl⟩ ?_
  refine xw_cTu dr_findTarget_98 (lk_r_findTarget_98 (xl_n hn (by decide)) rfl) ok_x_refuse (mx_refuse hl hn) ⟨Nat.le_of_ble_eq_true rfl, Nat.le_of_ble_eq_true rfl⟩ rfl (fun b7 s8 h_s8 => ?_)
  have hJ_s8 : jx_J s8 := xj_o (jx_refuse hJ_s5) h_s8
  refine xw_aload0 dr_findTarget_101 ?_
  refine xw_getR dr_findTarget_102 fl_r_10 (xl_n hn (by decide)) rfl r_1_0 ?_
  refine xw_aload0 dr_findTarget_105 ?_
  refine xw_getR dr_findTarget_106 fl_r_42 (xl_n hn (by decide)) rfl r_1_5 ?_
  refine xw_getI dr_findTarget_109 fl_r_231 (by decide) (xl_n hn (by decide)) rfl ?_
  refine xw_if_ne_mi (J := 120) (a := (1 : Int32)) (b := (0 : Int32)) dr_findTarget_112 rfl (fun _ E' k' => ?_) (fun _ E' k' => ?_) ?_
  · refine xw_iconst dr_findTarget_119 ki_0 ?_
    exact k'
  · refine xw_iconst dr_findTarget_115 ki_1 ?_
    refine xw_goto dr_findTarget_116 rfl ?_
    exact k'
  refine xw_bipush dr_findTarget_120 kb_11 ?_
  refine xw_iload2 dr_findTarget_122 ?_
  refine xw_cVi dr_findTarget_123 (lk_r_findTarget_123) ok_r_codeOf (mr_codeOf hl hn) ⟨Nat.le_of_ble_eq_true rfl, Nat.le_of_ble_eq_true rfl⟩ ?_
  refine xw_cTu dr_findTarget_126 (lk_r_findTarget_126 (xl_n hn (by decide)) rfl) ok_x_refuse (mx_refuse hl hn) ⟨Nat.le_of_ble_eq_true rfl, Nat.le_of_ble_eq_true rfl⟩ rfl (fun b9 s10 h_s10 => ?_)
  have hJ_s10 : jx_J s10 := xj_o (jx_refuse hJ_s8) h_s10
  exact xw_vret dr_findTarget_129 rfl
theorem jr_findTarget {a1 : Int32} {σ : xs_S} (hJ : jx_J σ) : jx_J (fr_findTarget a1 σ).2 := by
  unfold fr_findTarget
  refine xj_l (fun v1 e_v1 => ?_)
  refine xj_b (jx_refuse hJ) (fun b2 s3 h_s3 hJ_s3 => ?_)
  refine xj_b (jr_lookUp hJ_s3) (fun b4 s5 h_s5 hJ_s5 => ?_)
  refine xj_l (fun v6 e_v6 => ?_)
  refine xj_b (jx_refuse hJ_s5) (fun b7 s8 h_s8 hJ_s8 => ?_)
  refine xj_b (jx_refuse hJ_s8) (fun b9 s10 h_s10 hJ_s10 => ?_)
  exact hJ_s10
def fr_leadsInwards (σ : xs_S) : Int32 := (if (σ 14 3) = (1 : Int32) then (if (σ 3 6) ≤ (σ 14 4) then (0 : Int32) else (1 : Int32)) else (0 : Int32))
set_option maxRecDepth 100000 in
set_option maxHeartbeats 4000000 in
theorem mr_leadsInwards {l : Launch} {N n u : Nat} {σ : xs_S} (hl : l.stackTraces = false) (hn : 29 ≤ n) : xm_m (xk_k N) l tr_leadsInwards [.ref 1] (n, u, σ, xr_0) (xe_v ei_i n u σ (fr_leadsInwards σ)) := by
  refine xm_of hl ok_r_leadsInwards (Nat.le_of_ble_eq_true rfl) ?_
  show xw_w (xk_k N) l tr_leadsInwards 0 [some (.ref 1)] [] (n, u, σ, xr_0) (xe_v ei_i n u σ (fr_leadsInwards σ))
  unfold fr_leadsInwards
  refine xw_aload0 dr_leadsInwards_0 ?_
  refine xw_getR dr_leadsInwards_1 fl_r_42 (xl_n hn (by decide)) rfl r_1_5 ?_
  refine xw_getI dr_leadsInwards_4 fl_r_179 (by decide) (xl_n hn (by decide)) rfl ?_
  refine xw_iconst dr_leadsInwards_7 ki_1 ?_
  refine xw_icmp_ne' dr_leadsInwards_8 rfl (fun h1 => ?_) (fun h1 => ?_)
  · refine xw_iconst dr_leadsInwards_32 ki_0 ?_
    exact xw_zret dr_leadsInwards_33 rfl (by decide)
  · refine xw_aload0 dr_leadsInwards_11 ?_
    refine xw_getR dr_leadsInwards_12 fl_r_42 (xl_n hn (by decide)) rfl r_1_5 ?_
    refine xw_getI dr_leadsInwards_15 fl_r_182 (by decide) (xl_n hn (by decide)) rfl ?_
    refine xw_aload0 dr_leadsInwards_18 ?_
    refine xw_getR dr_leadsInwards_19 fl_r_19 (xl_n hn (by decide)) rfl r_1_1 ?_
    refine xw_getI dr_leadsInwards_22 fl_r_157 (by decide) (xl_n hn (by decide)) rfl ?_
    refine xw_icmp_ge' dr_leadsInwards_25 rfl (fun h2 => ?_) (fun h2 => ?_)
    · refine xw_iconst dr_leadsInwards_32 ki_0 ?_
      exact xw_zret dr_leadsInwards_33 rfl (by decide)
    · refine xw_iconst dr_leadsInwards_28 ki_1 ?_
      refine xw_goto dr_leadsInwards_29 rfl ?_
      exact xw_zret dr_leadsInwards_33 rfl (by decide)
def fm_wordAt (a1 : Int32) (a2 : Int32) (σ : xs_S) : xp_P Int32 := xp_b (fm_locate a1 a2 (0 : Int32) σ) (fun b1 s2 => xl_l ((fm_at b1 s2)) (fun v3 => xp_b (fm_locate (a1 + (1 : Int32)) a2 (0 : Int32) s2) (fun b4 s5 => xl_l ((fm_at b4 s5)) (fun v6 => (some (v3 + ((256 : Int32) * v6)), s5)))))
set_option maxRecDepth 100000 in
set_option maxHeartbeats 4000000 in
theorem mm_wordAt {l : Launch} {N n u : Nat} {a1 : Int32} {a2 : Int32} {σ : xs_S} (hl : l.stackTraces = false) (hn : 29 ≤ n) (hJ : jx_J σ) : xm_m (xk_k N) l tm_wordAt [.ref 11, .int a1, .int a2] (n, u, σ, xr_0) (xe_t ei_i n u (fm_wordAt a1 a2 σ)) := by
  refine xm_of hl ok_m_wordAt (Nat.le_of_ble_eq_true rfl) ?_
  show xw_w (xk_k N) l tm_wordAt 0 [some (.ref 11), some (.int a1), some (.int a2), none, none] [] (n, u, σ, xr_0) (xe_t ei_i n u (fm_wordAt a1 a2 σ))
  unfold fm_wordAt
  refine xw_aload0 dm_wordAt_0 ?_
  refine xw_aload0 dm_wordAt_1 ?_
  refine xw_iload1 dm_wordAt_2 ?_
  refine xw_iload2 dm_wordAt_3 ?_
  refine xw_iconst dm_wordAt_4 ki_0 ?_
  refine xw_cTi dm_wordAt_5 (lk_m_wordAt_5 (xl_n hn (by decide)) rfl) ok_m_locate (mm_locate hl hn hJ) ⟨Nat.le_of_ble_eq_true rfl, Nat.le_of_ble_eq_true rfl⟩ rfl (fun b1 s2 h_s2 => ?_)
  have hJ_s2 : jx_J s2 := xj_o (jm_locate hJ) h_s2
  refine xw_cVi dm_wordAt_8 (lk_m_wordAt_8 (xl_n hn (by decide)) rfl) ok_m_at (mm_at hl hn (lo_nn hJ h_s2)) ⟨Nat.le_of_ble_eq_true rfl, Nat.le_of_ble_eq_true rfl⟩ ?_
  refine xw_li (fun v3 e_v3 => ?_)
  refine xw_istore3 dm_wordAt_11 (Nat.le_of_ble_eq_true rfl) rfl ?_
  refine xw_aload0 dm_wordAt_12 ?_
  refine xw_aload0 dm_wordAt_13 ?_
  refine xw_iload1 dm_wordAt_14 ?_
  refine xw_iconst dm_wordAt_15 ki_1 ?_
  refine xw_iadd dm_wordAt_16 ?_
  refine xw_iload2 dm_wordAt_17 ?_
  refine xw_iconst dm_wordAt_18 ki_0 ?_
  refine xw_cTi dm_wordAt_19 (lk_m_wordAt_19 (xl_n hn (by decide)) rfl) ok_m_locate (mm_locate hl hn hJ_s2) ⟨Nat.le_of_ble_eq_true rfl, Nat.le_of_ble_eq_true rfl⟩ rfl (fun b4 s5 h_s5 => ?_)
  have hJ_s5 : jx_J s5 := xj_o (jm_locate hJ_s2) h_s5
  refine xw_cVi dm_wordAt_22 (lk_m_wordAt_22 (xl_n hn (by decide)) rfl) ok_m_at (mm_at hl hn (lo_nn hJ_s2 h_s5)) ⟨Nat.le_of_ble_eq_true rfl, Nat.le_of_ble_eq_true rfl⟩ ?_
  refine xw_li (fun v6 e_v6 => ?_)
  refine xw_istore4 dm_wordAt_25 (Nat.le_of_ble_eq_true rfl) rfl ?_
  refine xw_iload3 dm_wordAt_27 ?_
  refine xw_sipush dm_wordAt_28 ks_256 ?_
  refine xw_iload4 dm_wordAt_31 ?_
  refine xw_imul dm_wordAt_33 ?_
  refine xw_iadd dm_wordAt_34 ?_
  exact xw_iret dm_wordAt_35 rfl
theorem jm_wordAt {a1 : Int32} {a2 : Int32} {σ : xs_S} (hJ : jx_J σ) : jx_J (fm_wordAt a1 a2 σ).2 := by
  unfold fm_wordAt
  refine xj_b (jm_locate hJ) (fun b1 s2 h_s2 hJ_s2 => ?_)
  refine xj_l (fun v3 e_v3 => ?_)
  refine xj_b (jm_locate hJ_s2) (fun b4 s5 h_s5 hJ_s5 => ?_)
  refine xj_l (fun v6 e_v6 => ?_)
  exact hJ_s5
def fr_findInnerStack (σ : xs_S) : xp_P Int32 := xl_l ((σ 14 4)) (fun v1 => xl_l ((((σ 3 8) + ((4 : Int32) * v1)) + (2 : Int32))) (fun v2 => xp_b (fm_wordAt v2 (0 : Int32) σ) (fun b3 s4 => xp_b (fm_wordAt (v2 + (2 : Int32)) (0 : Int32) s4) (fun b5 s6 => xl_l ((fr_codeOf b5 s6)) (fun v7 => xp_b (fx_refuse (fr_isNull b5 s6) (10 : Int32) v7 s6) (fun b8 s9 => xp_b (fr_lookUp b5 15 s9) (fun b10 s11 => xl_l ((if (s11 15 3) = (4 : Int32) then (if (s11 15 4) = v1 then (if (fr_rplOf b5 s11) = v1 then (1 : Int32) else (0 : Int32)) else (0 : Int32)) else (0 : Int32))) (fun v12 => xp_b (fx_refuse (if v12 = 0 then (1 : Int32) else (0 : Int32)) (10 : Int32) v7 s11) (fun b13 s14 => xp_b (fx_refuse (if (s14 15 6) = 0 then (1 : Int32) else (0 : Int32)) (12 : Int32) v7 s14) (fun b15 s16 => (some b3, s16)))))))))))
set_option maxRecDepth 100000 in
set_option maxHeartbeats 4000000 in
theorem mr_findInnerStack {l : Launch} {N n u : Nat} {σ : xs_S} (hl : l.stackTraces = false) (hn : 29 ≤ n) (hJ : jx_J σ) : xm_m (xk_k N) l tr_findInnerStack [.ref 1] (n, u, σ, xr_0) (xe_t ei_i n u (fr_findInnerStack σ)) := by
  refine xm_of hl ok_r_findInnerStack (Nat.le_of_ble_eq_true rfl) ?_
  show xw_w (xk_k N) l tr_findInnerStack 0 [some (.ref 1), none, none, none, none, none, none] [] (n, u, σ, xr_0) (xe_t ei_i n u (fr_findInnerStack σ))
  unfold fr_findInnerStack
  refine xw_aload0 dr_findInnerStack_0 ?_
  refine xw_getR dr_findInnerStack_1 fl_r_42 (xl_n hn (by decide)) rfl r_1_5 ?_
  refine xw_getI dr_findInnerStack_4 fl_r_182 (by decide) (xl_n hn (by decide)) rfl ?_
  refine xw_li (fun v1 e_v1 => ?_)
  refine xw_istore1 dr_findInnerStack_7 (Nat.le_of_ble_eq_true rfl) rfl ?_
  refine xw_aload0 dr_findInnerStack_8 ?_
  refine xw_getR dr_findInnerStack_9 fl_r_19 (xl_n hn (by decide)) rfl r_1_1 ?_
  refine xw_getI dr_findInnerStack_12 fl_r_163 (by decide) (xl_n hn (by decide)) rfl ?_
  refine xw_iconst dr_findInnerStack_15 ki_4 ?_
  refine xw_iload1 dr_findInnerStack_16 ?_
  refine xw_imul dr_findInnerStack_17 ?_
  refine xw_iadd dr_findInnerStack_18 ?_
  refine xw_iconst dr_findInnerStack_19 ki_2 ?_
  refine xw_iadd dr_findInnerStack_20 ?_
  refine xw_li (fun v2 e_v2 => ?_)
  refine xw_istore2 dr_findInnerStack_21 (Nat.le_of_ble_eq_true rfl) rfl ?_
  refine xw_aload0 dr_findInnerStack_22 ?_
  refine xw_getR dr_findInnerStack_23 fl_r_31 (xl_n hn (by decide)) rfl r_1_3 ?_
  refine xw_iload2 dr_findInnerStack_26 ?_
  refine xw_iconst dr_findInnerStack_27 ki_0 ?_
  refine xw_cTi dr_findInnerStack_28 (lk_r_findInnerStack_28 (xl_n hn (by decide)) rfl) ok_m_wordAt (mm_wordAt hl hn hJ) ⟨Nat.le_of_ble_eq_true rfl, Nat.le_of_ble_eq_true rfl⟩ rfl (fun b3 s4 h_s4 => ?_)
  have hJ_s4 : jx_J s4 := xj_o (jm_wordAt hJ) h_s4
  refine xw_istore3 dr_findInnerStack_31 (Nat.le_of_ble_eq_true rfl) rfl ?_
  refine xw_aload0 dr_findInnerStack_32 ?_
  refine xw_getR dr_findInnerStack_33 fl_r_31 (xl_n hn (by decide)) rfl r_1_3 ?_
  refine xw_iload2 dr_findInnerStack_36 ?_
  refine xw_iconst dr_findInnerStack_37 ki_2 ?_
  refine xw_iadd dr_findInnerStack_38 ?_
  refine xw_iconst dr_findInnerStack_39 ki_0 ?_
  refine xw_cTi dr_findInnerStack_40 (lk_r_findInnerStack_40 (xl_n hn (by decide)) rfl) ok_m_wordAt (mm_wordAt hl hn hJ_s4) ⟨Nat.le_of_ble_eq_true rfl, Nat.le_of_ble_eq_true rfl⟩ rfl (fun b5 s6 h_s6 => ?_)
  have hJ_s6 : jx_J s6 := xj_o (jm_wordAt hJ_s4) h_s6
  refine xw_istore4 dr_findInnerStack_43 (Nat.le_of_ble_eq_true rfl) rfl ?_
  refine xw_iload4 dr_findInnerStack_45 ?_
  refine xw_cVi dr_findInnerStack_47 (lk_r_findInnerStack_47) ok_r_codeOf (mr_codeOf hl hn) ⟨Nat.le_of_ble_eq_true rfl, Nat.le_of_ble_eq_true rfl⟩ ?_
  refine xw_li (fun v7 e_v7 => ?_)
  refine xw_istore5 dr_findInnerStack_50 (Nat.le_of_ble_eq_true rfl) rfl ?_
  refine xw_aload0 dr_findInnerStack_52 ?_
  refine xw_getR dr_findInnerStack_53 fl_r_10 (xl_n hn (by decide)) rfl r_1_0 ?_
  refine xw_iload4 dr_findInnerStack_56 ?_
  refine xw_cVi dr_findInnerStack_58 (lk_r_findInnerStack_58) ok_r_isNull (mr_isNull hl hn) ⟨Nat.le_of_ble_eq_true rfl, Nat.le_of_ble_eq_true rfl⟩ ?_
  refine xw_bipush dr_findInnerStack_61 kb_10 ?_
  refine xw_iload5 dr_findInnerStack_63 ?_
  refine xw_cTu dr_findInnerStack_65 (lk_r_findInnerStack_65 (xl_n hn (by decide)) rfl) ok_x_refuse (mx_refuse hl hn) ⟨Nat.le_of_ble_eq_true rfl, Nat.le_of_ble_eq_true rfl⟩ rfl (fun b8 s9 h_s9 => ?_)
  have hJ_s9 : jx_J s9 := xj_o (jx_refuse hJ_s6) h_s9
  refine xw_aload0 dr_findInnerStack_68 ?_
  refine xw_iload4 dr_findInnerStack_69 ?_
  refine xw_aload0 dr_findInnerStack_71 ?_
  refine xw_getR dr_findInnerStack_72 fl_r_45 (xl_n hn (by decide)) rfl r_1_6 ?_
  refine xw_cTu dr_findInnerStack_75 (lk_r_findInnerStack_75 (xl_n hn (by decide)) rfl) ok_r_lookUp (mr_lookUp hl hn (by decide) (xl_n hn (by decide)) rfl hJ_s9) ⟨Nat.le_of_ble_eq_true rfl, Nat.le_of_ble_eq_true rfl⟩ rfl (fun b10 s11 h_s11 => ?_)
  have hJ_s11 : jx_J s11 := xj_o (jr_lookUp hJ_s9) h_s11
  refine xw_aload0 dr_findInnerStack_78 ?_
  refine xw_getR dr_findInnerStack_79 fl_r_45 (xl_n hn (by decide)) rfl r_1_6 ?_
  refine xw_getI dr_findInnerStack_82 fl_r_179 (by decide) (xl_n hn (by decide)) rfl ?_
  refine xw_iconst dr_findInnerStack_85 ki_4 ?_
  refine xw_icmp_ne_mi (J := 114) (a := (if (s11 15 4) = v1 then (if (fr_rplOf b5 s11) = v1 then (1 : Int32) else (0 : Int32)) else (0 : Int32))) (b := (0 : Int32)) dr_findInnerStack_86 rfl (fun _ E' k' => ?_) (fun _ E' k' => ?_) ?_
  · refine xw_iconst dr_findInnerStack_113 ki_0 ?_
    exact k'
  · refine xw_aload0 dr_findInnerStack_89 ?_
    refine xw_getR dr_findInnerStack_90 fl_r_45 (xl_n hn (by decide)) rfl r_1_6 ?_
    refine xw_getI dr_findInnerStack_93 fl_r_182 (by decide) (xl_n hn (by decide)) rfl ?_
    refine xw_iload1 dr_findInnerStack_96 ?_
    refine xw_icmp_ne_mi (J := 114) (a := (if (fr_rplOf b5 s11) = v1 then (1 : Int32) else (0 : Int32))) (b := (0 : Int32)) dr_findInnerStack_97 rfl (fun _ E' k' => ?_) (fun _ E' k' => ?_) ?_
    · refine xw_iconst dr_findInnerStack_113 ki_0 ?_
      exact k'
    · refine xw_iload4 dr_findInnerStack_100 ?_
      refine xw_cVi dr_findInnerStack_102 (lk_r_findInnerStack_102) ok_r_rplOf (mr_rplOf hl hn) ⟨Nat.le_of_ble_eq_true rfl, Nat.le_of_ble_eq_true rfl⟩ ?_
      refine xw_iload1 dr_findInnerStack_105 ?_
      refine xw_icmp_ne_mi (J := 114) (a := (1 : Int32)) (b := (0 : Int32)) dr_findInnerStack_106 rfl (fun _ E' k' => ?_) (fun _ E' k' => ?_) ?_
      · refine xw_iconst dr_findInnerStack_113 ki_0 ?_
        exact k'
      · refine xw_iconst dr_findInnerStack_109 ki_1 ?_
        refine xw_goto dr_findInnerStack_110 rfl ?_
        exact k'
      exact k'
    exact k'
  refine xw_li (fun v12 e_v12 => ?_)
  refine xw_istore6 dr_findInnerStack_114 (Nat.le_of_ble_eq_true rfl) rfl ?_
  refine xw_aload0 dr_findInnerStack_116 ?_
  refine xw_getR dr_findInnerStack_117 fl_r_10 (xl_n hn (by decide)) rfl r_1_0 ?_
  refine xw_iload6 dr_findInnerStack_120 ?_
  refine xw_if_ne_mi (J := 130) (a := (1 : Int32)) (b := (0 : Int32)) dr_findInnerStack_122 rfl (fun _ E' k' => ?_) (fun _ E' k' => ?_) ?_
  · refine xw_iconst dr_findInnerStack_129 ki_0 ?_
    exact k'
  · refine xw_iconst dr_findInnerStack_125 ki_1 ?_
    refine xw_goto dr_findInnerStack_126 rfl ?_
    exact k'
  refine xw_bipush dr_findInnerStack_130 kb_10 ?_
  refine xw_iload5 dr_findInnerStack_132 ?_
  refine xw_cTu dr_findInnerStack_134 (lk_r_findInnerStack_134 (xl_n hn (by decide)) rfl) ok_x_refuse (mx_refuse hl hn) ⟨Nat.le_of_ble_eq_true rfl, Nat.le_of_ble_eq_true rfl⟩ rfl (fun b13 s14 h_s14 => ?_)
  have hJ_s14 : jx_J s14 := xj_o (jx_refuse hJ_s11) h_s14
  refine xw_aload0 dr_findInnerStack_137 ?_
  refine xw_getR dr_findInnerStack_138 fl_r_10 (xl_n hn (by decide)) rfl r_1_0 ?_
  refine xw_aload0 dr_findInnerStack_141 ?_
  refine xw_getR dr_findInnerStack_142 fl_r_45 (xl_n hn (by decide)) rfl r_1_6 ?_
  refine xw_getI dr_findInnerStack_145 fl_r_231 (by decide) (xl_n hn (by decide)) rfl ?_
  refine xw_if_ne_mi (J := 156) (a := (1 : Int32)) (b := (0 : Int32)) dr_findInnerStack_148 rfl (fun _ E' k' => ?_) (fun _ E' k' => ?_) ?_
  · refine xw_iconst dr_findInnerStack_155 ki_0 ?_
    exact k'
  · refine xw_iconst dr_findInnerStack_151 ki_1 ?_
    refine xw_goto dr_findInnerStack_152 rfl ?_
    exact k'
  refine xw_bipush dr_findInnerStack_156 kb_12 ?_
  refine xw_iload5 dr_findInnerStack_158 ?_
  refine xw_cTu dr_findInnerStack_160 (lk_r_findInnerStack_160 (xl_n hn (by decide)) rfl) ok_x_refuse (mx_refuse hl hn) ⟨Nat.le_of_ble_eq_true rfl, Nat.le_of_ble_eq_true rfl⟩ rfl (fun b15 s16 h_s16 => ?_)
  have hJ_s16 : jx_J s16 := xj_o (jx_refuse hJ_s14) h_s16
  refine xw_iload3 dr_findInnerStack_163 ?_
  exact xw_iret dr_findInnerStack_164 rfl
theorem jr_findInnerStack {σ : xs_S} (hJ : jx_J σ) : jx_J (fr_findInnerStack σ).2 := by
  unfold fr_findInnerStack
  refine xj_l (fun v1 e_v1 => ?_)
  refine xj_l (fun v2 e_v2 => ?_)
  refine xj_b (jm_wordAt hJ) (fun b3 s4 h_s4 hJ_s4 => ?_)
  refine xj_b (jm_wordAt hJ_s4) (fun b5 s6 h_s6 hJ_s6 => ?_)
  refine xj_l (fun v7 e_v7 => ?_)
  refine xj_b (jx_refuse hJ_s6) (fun b8 s9 h_s9 hJ_s9 => ?_)
  refine xj_b (jr_lookUp hJ_s9) (fun b10 s11 h_s11 hJ_s11 => ?_)
  refine xj_l (fun v12 e_v12 => ?_)
  refine xj_b (jx_refuse hJ_s11) (fun b13 s14 h_s14 hJ_s14 => ?_)
  refine xj_b (jx_refuse hJ_s14) (fun b15 s16 h_s16 hJ_s16 => ?_)
  exact hJ_s16
