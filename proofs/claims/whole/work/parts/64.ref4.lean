def fy_tables (a1 : Int32) (a2 : Int32) (a3 : Int32) (σ : xs_S) : Int32 × xs_S := (if (σ 18 8) = 0 then (if a2 < 0 then ((0 : Int32), σ) else (if a2 ≤ (32 : Int32) then xl_l ((xu_u σ 18 2 (a1 &&& (4095 : Int32)))) (fun s4 => xl_l ((xu_u s4 18 3 a2)) (fun s5 => xl_l ((xu_u s5 18 4 (a3 &&& (4095 : Int32)))) (fun s6 => ((1 : Int32), s6)))) else ((0 : Int32), σ))) else ((0 : Int32), σ))
set_option maxRecDepth 100000 in
set_option maxHeartbeats 4000000 in
theorem my_tables {l : Launch} {N n u : Nat} {a1 : Int32} {a2 : Int32} {a3 : Int32} {σ : xs_S} (hl : l.stackTraces = false) (hn : 29 ≤ n) : xm_m (xk_k N) l ty_tables [.ref 18, .int a1, .int a2, .int a3] (n, u, σ, xr_0) (xe_p ei_i n u (fy_tables a1 a2 a3 σ)) := by
  refine xm_of hl ok_y_tables (Nat.le_of_ble_eq_true rfl) ?_
  show xw_w (xk_k N) l ty_tables 0 [some (.ref 18), some (.int a1), some (.int a2), some (.int a3)] [] (n, u, σ, xr_0) (xe_p ei_i n u (fy_tables a1 a2 a3 σ))
  unfold fy_tables
  refine xw_aload0 dy_tables_0 ?_
  refine xw_getI dy_tables_1 fl_y_177 (by decide) (xl_n hn (by decide)) rfl ?_
  refine xw_if_ne' dy_tables_4 rfl (fun h1 => ?_) (fun h1 => ?_)
  · refine xw_iconst dy_tables_17 ki_0 ?_
    exact xw_zret dy_tables_18 rfl (by decide)
  · refine xw_iload2 dy_tables_7 ?_
    refine xw_if_lt' dy_tables_8 rfl (fun h2 => ?_) (fun h2 => ?_)
    · refine xw_iconst dy_tables_17 ki_0 ?_
      exact xw_zret dy_tables_18 rfl (by decide)
    · refine xw_iload2 dy_tables_11 ?_
      refine xw_bipush dy_tables_12 kb_32 ?_
      refine xw_icmp_le' dy_tables_14 rfl (fun h3 => ?_) (fun h3 => ?_)
      · refine xw_aload0 dy_tables_19 ?_
        refine xw_iload1 dy_tables_20 ?_
        refine xw_sipush dy_tables_21 ks_4095 ?_
        refine xw_iand dy_tables_24 ?_
        refine xw_putI dy_tables_25 fl_y_81 nf_5_2 (by decide) (xl_n hn (by decide)) rfl ?_
        refine xw_lw (fun s4 e_s4 => ?_)
        refine xw_aload0 dy_tables_28 ?_
        refine xw_iload2 dy_tables_29 ?_
        refine xw_putI dy_tables_30 fl_y_74 nf_5_3 (by decide) (xl_n hn (by decide)) rfl ?_
        refine xw_lw (fun s5 e_s5 => ?_)
        refine xw_aload0 dy_tables_33 ?_
        refine xw_iload3 dy_tables_34 ?_
        refine xw_sipush dy_tables_35 ks_4095 ?_
        refine xw_iand dy_tables_38 ?_
        refine xw_putI dy_tables_39 fl_y_152 nf_5_4 (by decide) (xl_n hn (by decide)) rfl ?_
        refine xw_lw (fun s6 e_s6 => ?_)
        refine xw_iconst dy_tables_42 ki_1 ?_
        exact xw_zret dy_tables_43 rfl (by decide)
      · refine xw_iconst dy_tables_17 ki_0 ?_
        exact xw_zret dy_tables_18 rfl (by decide)
theorem jy_tables {a1 : Int32} {a2 : Int32} {a3 : Int32} {σ : xs_S} (hJ : yx_J σ) : yx_J (fy_tables a1 a2 a3 σ).2 := by
  unfold fy_tables
  refine xj_f (fun h1 => ?_) (fun h1 => ?_)
  · refine xj_f (fun h2 => ?_) (fun h2 => ?_)
    · exact hJ
    · refine xj_f (fun h3 => ?_) (fun h3 => ?_)
      · refine xj_l (fun s4 e_s4 => ?_)
        have hJ_s4 : yx_J s4 := by rw [e_s4]; exact (yx_u hJ (by decide))
        refine xj_l (fun s5 e_s5 => ?_)
        have hJ_s5 : yx_J s5 := by rw [e_s5]; exact (yx_u hJ_s4 (by decide))
        refine xj_l (fun s6 e_s6 => ?_)
        have hJ_s6 : yx_J s6 := by rw [e_s6]; exact (yx_u hJ_s5 (by decide))
        exact hJ_s6
      · exact hJ
  · exact hJ
def fy_pages (a1 : Int32) (a2 : Int32) (σ : xs_S) : Int32 × xs_S := (if (σ 18 8) = 0 then xl_l ((xu_u σ 20 24 (a1 &&& (31 : Int32)))) (fun s2 => xl_l ((xu_u s2 18 1 (a2 &&& 1))) (fun s3 => ((1 : Int32), s3))) else ((0 : Int32), σ))
set_option maxRecDepth 100000 in
set_option maxHeartbeats 4000000 in
theorem my_pages {l : Launch} {N n u : Nat} {a1 : Int32} {a2 : Int32} {σ : xs_S} (hl : l.stackTraces = false) (hn : 29 ≤ n) : xm_m (xk_k N) l ty_pages [.ref 18, .int a1, .int a2] (n, u, σ, xr_0) (xe_p ei_i n u (fy_pages a1 a2 σ)) := by
  refine xm_of hl ok_y_pages (Nat.le_of_ble_eq_true rfl) ?_
  show xw_w (xk_k N) l ty_pages 0 [some (.ref 18), some (.int a1), some (.int a2)] [] (n, u, σ, xr_0) (xe_p ei_i n u (fy_pages a1 a2 σ))
  unfold fy_pages
  refine xw_aload0 dy_pages_0 ?_
  refine xw_getI dy_pages_1 fl_y_177 (by decide) (xl_n hn (by decide)) rfl ?_
  refine xw_if_eq' dy_pages_4 rfl (fun h1 => ?_) (fun h1 => ?_)
  · refine xw_aload0 dy_pages_9 ?_
    refine xw_getR dy_pages_10 fl_y_13 (xl_n hn (by decide)) rfl r_18_5 ?_
    refine xw_bipush dy_pages_13 kb_24 ?_
    refine xw_iload1 dy_pages_15 ?_
    refine xw_bipush dy_pages_16 kb_31 ?_
    refine xw_iand dy_pages_18 ?_
    refine xw_iast dy_pages_19 (by decide) (xl_n hn (by decide)) rfl vc_24_26 cn_24 ?_
    refine xw_lw (fun s2 e_s2 => ?_)
    refine xw_aload0 dy_pages_20 ?_
    refine xw_iload2 dy_pages_21 ?_
    refine xw_putZ dy_pages_22 fl_y_46 nf_5_1 (by decide) (xl_n hn (by decide)) rfl ?_
    refine xw_lw (fun s3 e_s3 => ?_)
    refine xw_iconst dy_pages_25 ki_1 ?_
    exact xw_zret dy_pages_26 rfl (by decide)
  · refine xw_iconst dy_pages_7 ki_0 ?_
    exact xw_zret dy_pages_8 rfl (by decide)
theorem jy_pages {a1 : Int32} {a2 : Int32} {σ : xs_S} (hJ : yx_J σ) : yx_J (fy_pages a1 a2 σ).2 := by
  unfold fy_pages
  refine xj_f (fun h1 => ?_) (fun h1 => ?_)
  · refine xj_l (fun s2 e_s2 => ?_)
    have hJ_s2 : yx_J s2 := by rw [e_s2]; exact (yx_p hJ)
    refine xj_l (fun s3 e_s3 => ?_)
    have hJ_s3 : yx_J s3 := by rw [e_s3]; exact (yx_u hJ_s2 (by decide))
    exact hJ_s3
  · exact hJ
def fy_register (a1 : Int32) (σ : xs_S) : Int32 := (if a1 < 0 then (-1 : Int32) else (if a1 ≤ (12 : Int32) then (if (3 : Int32) ≤ a1 then (if (10 : Int32) ≤ a1 then (if a1 = (10 : Int32) then (σ 18 7) else (if a1 = (11 : Int32) then (σ 20 25) else (if (σ 18 8) = 0 then (0 : Int32) else (1 : Int32)))) else (σ 20 ((((18 : Int32) + a1) - (3 : Int32))).toNatClampNeg)) else (σ 20 (a1).toNatClampNeg)) else (-1 : Int32)))
set_option maxRecDepth 100000 in
set_option maxHeartbeats 4000000 in
theorem my_register {l : Launch} {N n u : Nat} {a1 : Int32} {σ : xs_S} (hl : l.stackTraces = false) (hn : 29 ≤ n) : xm_m (xk_k N) l ty_register [.ref 18, .int a1] (n, u, σ, xr_0) (xe_v ei_i n u σ (fy_register a1 σ)) := by
  refine xm_of hl ok_y_register (Nat.le_of_ble_eq_true rfl) ?_
  show xw_w (xk_k N) l ty_register 0 [some (.ref 18), some (.int a1)] [] (n, u, σ, xr_0) (xe_v ei_i n u σ (fy_register a1 σ))
  unfold fy_register
  refine xw_iload1 dy_register_0 ?_
  refine xw_if_lt' dy_register_1 rfl (fun h1 => ?_) (fun h1 => ?_)
  · refine xw_iconst dy_register_10 ki_m1 ?_
    exact xw_iret dy_register_11 rfl
  · refine xw_iload1 dy_register_4 ?_
    refine xw_bipush dy_register_5 kb_12 ?_
    refine xw_icmp_le' dy_register_7 rfl (fun h2 => ?_) (fun h2 => ?_)
    · refine xw_iload1 dy_register_12 ?_
      refine xw_iconst dy_register_13 ki_3 ?_
      refine xw_icmp_ge' dy_register_14 rfl (fun h3 => ?_) (fun h3 => ?_)
      · refine xw_iload1 dy_register_24 ?_
        refine xw_bipush dy_register_25 kb_10 ?_
        refine xw_icmp_ge' dy_register_27 rfl (fun h4 => ?_) (fun h4 => ?_)
        · refine xw_iload1 dy_register_44 ?_
          refine xw_bipush dy_register_45 kb_10 ?_
          refine xw_icmp_ne' dy_register_47 rfl (fun h5 => ?_) (fun h5 => ?_)
          · refine xw_iload1 dy_register_57 ?_
            refine xw_bipush dy_register_58 kb_11 ?_
            refine xw_icmp_ne' dy_register_60 rfl (fun h6 => ?_) (fun h6 => ?_)
            · refine xw_aload0 dy_register_73 ?_
              refine xw_getI dy_register_74 fl_y_177 (by decide) (xl_n hn (by decide)) rfl ?_
              refine xw_if_eq' dy_register_77 rfl (fun h7 => ?_) (fun h7 => ?_)
              · refine xw_iconst dy_register_84 ki_0 ?_
                exact xw_iret dy_register_85 rfl
              · refine xw_iconst dy_register_80 ki_1 ?_
                refine xw_goto dy_register_81 rfl ?_
                exact xw_iret dy_register_85 rfl
            · refine xw_aload0 dy_register_63 ?_
              refine xw_getR dy_register_64 fl_y_13 (xl_n hn (by decide)) rfl r_18_5 ?_
              refine xw_bipush dy_register_67 kb_25 ?_
              refine xw_iald dy_register_69 (xl_n hn (by decide)) rfl vc_25_26 cn_25 ?_
              refine xw_goto dy_register_70 rfl ?_
              exact xw_iret dy_register_85 rfl
          · refine xw_aload0 dy_register_50 ?_
            refine xw_getI dy_register_51 fl_y_50 (by decide) (xl_n hn (by decide)) rfl ?_
            refine xw_goto dy_register_54 rfl ?_
            exact xw_iret dy_register_85 rfl
        · refine xw_aload0 dy_register_30 ?_
          refine xw_getR dy_register_31 fl_y_13 (xl_n hn (by decide)) rfl r_18_5 ?_
          refine xw_bipush dy_register_34 kb_18 ?_
          refine xw_iload1 dy_register_36 ?_
          refine xw_iadd dy_register_37 ?_
          refine xw_iconst dy_register_38 ki_3 ?_
          refine xw_isub dy_register_39 ?_
          refine xw_iald dy_register_40 (xl_n hn (by decide)) rfl (vr_2 h3 h4) rfl ?_
          refine xw_goto dy_register_41 rfl ?_
          exact xw_iret dy_register_85 rfl
      · refine xw_aload0 dy_register_17 ?_
        refine xw_getR dy_register_18 fl_y_13 (xl_n hn (by decide)) rfl r_18_5 ?_
        refine xw_iload1 dy_register_21 ?_
        refine xw_iald dy_register_22 (xl_n hn (by decide)) rfl (vr_1 h1 h3) rfl ?_
        exact xw_iret dy_register_23 rfl
    · refine xw_iconst dy_register_10 ki_m1 ?_
      exact xw_iret dy_register_11 rfl
def fy_segment (a1 : Int32) (a2 : Int32) (σ : xs_S) : Int32 := (if a1 < 0 then (-1 : Int32) else (if (2 : Int32) < a1 then (-1 : Int32) else (if a2 < 0 then (-1 : Int32) else (if a2 ≤ (3 : Int32) then (if (σ 20 (((3 : Int32) + a1)).toNatClampNeg) = (1 : Int32) then (0 : Int32) else (σ 20 ((((6 : Int32) + ((3 : Int32) * a2)) + a1)).toNatClampNeg)) else (-1 : Int32)))))
set_option maxRecDepth 100000 in
set_option maxHeartbeats 4000000 in
theorem my_segment {l : Launch} {N n u : Nat} {a1 : Int32} {a2 : Int32} {σ : xs_S} (hl : l.stackTraces = false) (hn : 29 ≤ n) : xm_m (xk_k N) l ty_segment [.ref 18, .int a1, .int a2] (n, u, σ, xr_0) (xe_v ei_i n u σ (fy_segment a1 a2 σ)) := by
  refine xm_of hl ok_y_segment (Nat.le_of_ble_eq_true rfl) ?_
  show xw_w (xk_k N) l ty_segment 0 [some (.ref 18), some (.int a1), some (.int a2)] [] (n, u, σ, xr_0) (xe_v ei_i n u σ (fy_segment a1 a2 σ))
  unfold fy_segment
  refine xw_iload1 dy_segment_0 ?_
  refine xw_if_lt' dy_segment_1 rfl (fun h1 => ?_) (fun h1 => ?_)
  · refine xw_iconst dy_segment_18 ki_m1 ?_
    exact xw_iret dy_segment_19 rfl
  · refine xw_iload1 dy_segment_4 ?_
    refine xw_iconst dy_segment_5 ki_2 ?_
    refine xw_icmp_gt' dy_segment_6 rfl (fun h2 => ?_) (fun h2 => ?_)
    · refine xw_iconst dy_segment_18 ki_m1 ?_
      exact xw_iret dy_segment_19 rfl
    · refine xw_iload2 dy_segment_9 ?_
      refine xw_if_lt' dy_segment_10 rfl (fun h3 => ?_) (fun h3 => ?_)
      · refine xw_iconst dy_segment_18 ki_m1 ?_
        exact xw_iret dy_segment_19 rfl
      · refine xw_iload2 dy_segment_13 ?_
        refine xw_iconst dy_segment_14 ki_3 ?_
        refine xw_icmp_le' dy_segment_15 rfl (fun h4 => ?_) (fun h4 => ?_)
        · refine xw_aload0 dy_segment_20 ?_
          refine xw_getR dy_segment_21 fl_y_13 (xl_n hn (by decide)) rfl r_18_5 ?_
          refine xw_iconst dy_segment_24 ki_3 ?_
          refine xw_iload1 dy_segment_25 ?_
          refine xw_iadd dy_segment_26 ?_
          refine xw_iald dy_segment_27 (xl_n hn (by decide)) rfl (vs_k (vs_3 h1 h2) (by decide)) rfl ?_
          refine xw_iconst dy_segment_28 ki_1 ?_
          refine xw_icmp_ne' dy_segment_29 rfl (fun h5 => ?_) (fun h5 => ?_)
          · refine xw_aload0 dy_segment_36 ?_
            refine xw_getR dy_segment_37 fl_y_13 (xl_n hn (by decide)) rfl r_18_5 ?_
            refine xw_bipush dy_segment_40 kb_6 ?_
            refine xw_iconst dy_segment_42 ki_3 ?_
            refine xw_iload2 dy_segment_43 ?_
            refine xw_imul dy_segment_44 ?_
            refine xw_iadd dy_segment_45 ?_
            refine xw_iload1 dy_segment_46 ?_
            refine xw_iadd dy_segment_47 ?_
            refine xw_iald dy_segment_48 (xl_n hn (by decide)) rfl (vr_3 (vs_3 h1 h2) h3 h4) rfl ?_
            exact xw_iret dy_segment_49 rfl
          · refine xw_iconst dy_segment_32 ki_0 ?_
            refine xw_goto dy_segment_33 rfl ?_
            exact xw_iret dy_segment_49 rfl
        · refine xw_iconst dy_segment_18 ki_m1 ?_
          exact xw_iret dy_segment_19 rfl
