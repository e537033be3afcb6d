def fy_restore (σ : xs_S) : xs_S := xl_l ((xu_u σ 20 0 (σ 21 0))) (fun s1 => xl_l ((xu_u s1 20 1 (s1 21 1))) (fun s2 => xl_l ((xu_u s2 20 2 (s2 21 2))) (fun s3 => xl_l ((xu_u s3 20 3 (s3 21 3))) (fun s4 => xl_l ((xu_u s4 20 4 (s4 21 4))) (fun s5 => xl_l ((xu_u s5 20 5 (s5 21 5))) (fun s6 => xl_l ((xu_u s6 20 6 (s6 21 6))) (fun s7 => xl_l ((xu_u s7 20 7 (s7 21 7))) (fun s8 => xl_l ((xu_u s8 20 8 (s8 21 8))) (fun s9 => xl_l ((xu_u s9 20 9 (s9 21 9))) (fun s10 => xl_l ((xu_u s10 20 10 (s10 21 10))) (fun s11 => xl_l ((xu_u s11 20 11 (s11 21 11))) (fun s12 => xl_l ((xu_u s12 20 12 (s12 21 12))) (fun s13 => xl_l ((xu_u s13 20 13 (s13 21 13))) (fun s14 => xl_l ((xu_u s14 20 14 (s14 21 14))) (fun s15 => xl_l ((xu_u s15 20 15 (s15 21 15))) (fun s16 => xl_l ((xu_u s16 20 16 (s16 21 16))) (fun s17 => xl_l ((xu_u s17 20 17 (s17 21 17))) (fun s18 => xl_l ((xu_u s18 20 18 (s18 21 18))) (fun s19 => xl_l ((xu_u s19 20 19 (s19 21 19))) (fun s20 => xl_l ((xu_u s20 20 20 (s20 21 20))) (fun s21 => xl_l ((xu_u s21 20 21 (s21 21 21))) (fun s22 => xl_l ((xu_u s22 20 22 (s22 21 22))) (fun s23 => xl_l ((xu_u s23 20 23 (s23 21 23))) (fun s24 => xl_l ((xu_u s24 20 24 (s24 21 24))) (fun s25 => xl_l ((xu_u s25 20 25 (s25 21 25))) (fun s26 => s26))))))))))))))))))))))))))
set_option maxRecDepth 100000 in
set_option maxHeartbeats 4000000 in
theorem my_restore {l : Launch} {N n u : Nat} {σ : xs_S} (hl : l.stackTraces = false) (hn : 29 ≤ n) : xm_m (xk_k N) l ty_restore [.ref 18] (n, u, σ, xr_0) (xe_w n u (fy_restore σ)) := by
  refine xm_of hl ok_y_restore (Nat.le_of_ble_eq_true rfl) ?_
  show xw_w (xk_k N) l ty_restore 0 [some (.ref 18), none] [] (n, u, σ, xr_0) (xe_w n u (fy_restore σ))
  unfold fy_restore
  refine xw_iconst dy_restore_0 ki_0 ?_
  refine xw_istore1 dy_restore_1 (Nat.le_of_ble_eq_true rfl) rfl ?_
  refine xw_iload1 dy_restore_2 ?_
  refine xw_bipush dy_restore_3 kb_26 ?_
  refine xw_icmp_ge_f dy_restore_5 rfl (by decide) ?_
  refine xw_aload0 dy_restore_8 ?_
  refine xw_getR dy_restore_9 fl_y_13 (xl_n hn (by decide)) rfl r_18_5 ?_
  refine xw_iload1 dy_restore_12 ?_
  refine xw_aload0 dy_restore_13 ?_
  refine xw_getR dy_restore_14 fl_y_16 (xl_n hn (by decide)) rfl r_18_6 ?_
  refine xw_iload1 dy_restore_17 ?_
  refine xw_iald dy_restore_18 (xl_n hn (by decide)) rfl vc_0_26 cn_0 ?_
  refine xw_iast dy_restore_19 (by decide) (xl_n hn (by decide)) rfl vc_0_26 cn_0 ?_
  refine xw_lw (fun s1 e_s1 => ?_)
  refine xw_iinc1 dy_restore_20 ic_0_1 (Nat.le_of_ble_eq_true rfl) rfl ?_
  refine xw_goto dy_restore_23 rfl ?_
  refine xw_iload1 dy_restore_2 ?_
  refine xw_bipush dy_restore_3 kb_26 ?_
  refine xw_icmp_ge_f dy_restore_5 rfl (by decide) ?_
  refine xw_aload0 dy_restore_8 ?_
  refine xw_getR dy_restore_9 fl_y_13 (xl_n hn (by decide)) rfl r_18_5 ?_
  refine xw_iload1 dy_restore_12 ?_
  refine xw_aload0 dy_restore_13 ?_
  refine xw_getR dy_restore_14 fl_y_16 (xl_n hn (by decide)) rfl r_18_6 ?_
  refine xw_iload1 dy_restore_17 ?_
  refine xw_iald dy_restore_18 (xl_n hn (by decide)) rfl vc_1_26 cn_1 ?_
  refine xw_iast dy_restore_19 (by decide) (xl_n hn (by decide)) rfl vc_1_26 cn_1 ?_
  refine xw_lw (fun s2 e_s2 => ?_)
  refine xw_iinc1 dy_restore_20 ic_1_1 (Nat.le_of_ble_eq_true rfl) rfl ?_
  refine xw_goto dy_restore_23 rfl ?_
  refine xw_iload1 dy_restore_2 ?_
  refine xw_bipush dy_restore_3 kb_26 ?_
  refine xw_icmp_ge_f dy_restore_5 rfl (by decide) ?_
  refine xw_aload0 dy_restore_8 ?_
  refine xw_getR dy_restore_9 fl_y_13 (xl_n hn (by decide)) rfl r_18_5 ?_
  refine xw_iload1 dy_restore_12 ?_
  refine xw_aload0 dy_restore_13 ?_
  refine xw_getR dy_restore_14 fl_y_16 (xl_n hn (by decide)) rfl r_18_6 ?_
  refine xw_iload1 dy_restore_17 ?_
  refine xw_iald dy_restore_18 (xl_n hn (by decide)) rfl vc_2_26 cn_2 ?_
  refine xw_iast dy_restore_19 (by decide) (xl_n hn (by decide)) rfl vc_2_26 cn_2 ?_
  refine xw_lw (fun s3 e_s3 => ?_)
  refine xw_iinc1 dy_restore_20 ic_2_1 (Nat.le_of_ble_eq_true rfl) rfl ?_
  refine xw_goto dy_restore_23 rfl ?_
  refine xw_iload1 dy_restore_2 ?_
  refine xw_bipush dy_restore_3 kb_26 ?_
  refine xw_icmp_ge_f dy_restore_5 rfl (by decide) ?_
  refine xw_aload0 dy_restore_8 ?_
  refine xw_getR dy_restore_9 fl_y_13 (xl_n hn (by decide)) rfl r_18_5 ?_
  refine xw_iload1 dy_restore_12 ?_
  refine xw_aload0 dy_restore_13 ?_
  refine xw_getR dy_restore_14 fl_y_16 (xl_n hn (by decide)) rfl r_18_6 ?_
  refine xw_iload1 dy_restore_17 ?_
  refine xw_iald dy_restore_18 (xl_n hn (by decide)) rfl vc_3_26 cn_3 ?_
  refine xw_iast dy_restore_19 (by decide) (xl_n hn (by decide)) rfl vc_3_26 cn_3 ?_
  refine xw_lw (fun s4 e_s4 => ?_)
  refine xw_iinc1 dy_restore_20 ic_3_1 (Nat.le_of_ble_eq_true rfl) rfl ?_
  refine xw_goto dy_restore_23 rfl ?_
  refine xw_iload1 dy_restore_2 ?_
  refine xw_bipush dy_restore_3 kb_26 ?_
  refine xw_icmp_ge_f dy_restore_5 rfl (by decide) ?_
  refine xw_aload0 dy_restore_8 ?_
  refine xw_getR dy_restore_9 fl_y_13 (xl_n hn (by decide)) rfl r_18_5 ?_
  refine xw_iload1 dy_restore_12 ?_
  refine xw_aload0 dy_restore_13 ?_
  refine xw_getR dy_restore_14 fl_y_16 (xl_n hn (by decide)) rfl r_18_6 ?_
  refine xw_iload1 dy_restore_17 ?_
  refine xw_iald dy_restore_18 (xl_n hn (by decide)) rfl vc_4_26 cn_4 ?_
  refine xw_iast dy_restore_19 (by decide) (xl_n hn (by decide)) rfl vc_4_26 cn_4 ?_
  refine xw_lw (fun s5 e_s5 => ?_)
  refine xw_iinc1 dy_restore_20 ic_4_1 (Nat.le_of_ble_eq_true rfl) rfl ?_
  refine xw_goto dy_restore_23 rfl ?_
  refine xw_iload1 dy_restore_2 ?_
  refine xw_bipush dy_restore_3 kb_26 ?_
  refine xw_icmp_ge_f dy_restore_5 rfl (by decide) ?_
  refine xw_aload0 dy_restore_8 ?_
  refine xw_getR dy_restore_9 fl_y_13 (xl_n hn (by decide)) rfl r_18_5 ?_
  refine xw_iload1 dy_restore_12 ?_
  refine xw_aload0 dy_restore_13 ?_
  refine xw_getR dy_restore_14 fl_y_16 (xl_n hn (by decide)) rfl r_18_6 ?_
  refine xw_iload1 dy_restore_17 ?_
  refine xw_iald dy_restore_18 (xl_n hn (by decide)) rfl vc_5_26 cn_5 ?_
  refine xw_iast dy_restore_19 (by decide) (xl_n hn (by decide)) rfl vc_5_26 cn_5 ?_
  refine xw_lw (fun s6 e_s6 => ?_)
  refine xw_iinc1 dy_restore_20 ic_5_1 (Nat.le_of_ble_eq_true rfl) rfl ?_
  refine xw_goto dy_restore_23 rfl ?_
  refine xw_iload1 dy_restore_2 ?_
  refine xw_bipush dy_restore_3 kb_26 ?_
  refine xw_icmp_ge_f dy_restore_5 rfl (by decide) ?_
  refine xw_aload0 dy_restore_8 ?_
  refine xw_getR dy_restore_9 fl_y_13 (xl_n hn (by decide)) rfl r_18_5 ?_
  refine xw_iload1 dy_restore_12 ?_
  refine xw_aload0 dy_restore_13 ?_
  refine xw_getR dy_restore_14 fl_y_16 (xl_n hn (by decide)) rfl r_18_6 ?_
  refine xw_iload1 dy_restore_17 ?_
  refine xw_iald dy_restore_18 (xl_n hn (by decide)) rfl vc_6_26 cn_6 ?_
  refine xw_iast dy_restore_19 (by decide) (xl_n hn (by decide)) rfl vc_6_26 cn_6 ?_
  refine xw_lw (fun s7 e_s7 => ?_)
  refine xw_iinc1 dy_restore_20 ic_6_1 (Nat.le_of_ble_eq_true rfl) rfl ?_
  refine xw_goto dy_restore_23 rfl ?_
  refine xw_iload1 dy_restore_2 ?_
  refine xw_bipush dy_restore_3 kb_26 ?_
  refine xw_icmp_ge_f dy_restore_5 rfl (by decide) ?_
  refine xw_aload0 dy_restore_8 ?_
  refine xw_getR dy_restore_9 fl_y_13 (xl_n hn (by decide)) rfl r_18_5 ?_
  refine xw_iload1 dy_restore_12 ?_
  refine xw_aload0 dy_restore_13 ?_
  refine xw_getR dy_restore_14 fl_y_16 (xl_n hn (by decide)) rfl r_18_6 ?_
  refine xw_iload1 dy_restore_17 ?_
  refine xw_iald dy_restore_18 (xl_n hn (by decide)) rfl vc_7_26 cn_7 ?_
  refine xw_iast dy_restore_19 (by decide) (xl_n hn (by decide)) rfl vc_7_26 cn_7 ?_
  refine xw_lw (fun s8 e_s8 => ?_)
  refine xw_iinc1 dy_restore_20 ic_7_1 (Nat.le_of_ble_eq_true rfl) rfl ?_
  refine xw_goto dy_restore_23 rfl ?_
  refine xw_iload1 dy_restore_2 ?_
  refine xw_bipush dy_restore_3 kb_26 ?_
  refine xw_icmp_ge_f dy_restore_5 rfl (by decide) ?_
  refine xw_aload0 dy_restore_8 ?_
  refine xw_getR dy_restore_9 fl_y_13 (xl_n hn (by decide)) rfl r_18_5 ?_
  refine xw_iload1 dy_restore_12 ?_
  refine xw_aload0 dy_restore_13 ?_
  refine xw_getR dy_restore_14 fl_y_16 (xl_n hn (by decide)) rfl r_18_6 ?_
  refine xw_iload1 dy_restore_17 ?_
  refine xw_iald dy_restore_18 (xl_n hn (by decide)) rfl vc_8_26 cn_8 ?_
  refine xw_iast dy_restore_19 (by decide) (xl_n hn (by decide)) rfl vc_8_26 cn_8 ?_
  refine xw_lw (fun s9 e_s9 => ?_)
  refine xw_iinc1 dy_restore_20 ic_8_1 (Nat.le_of_ble_eq_true rfl) rfl ?_
  refine xw_goto dy_restore_23 rfl ?_
  refine xw_iload1 dy_restore_2 ?_
  refine xw_bipush dy_restore_3 kb_26 ?_
  refine xw_icmp_ge_f dy_restore_5 rfl (by decide) ?_
  refine xw_aload0 dy_restore_8 ?_
  refine xw_getR dy_restore_9 fl_y_13 (xl_n hn (by decide)) rfl r_18_5 ?_
  refine xw_iload1 dy_restore_12 ?_
  refine xw_aload0 dy_restore_13 ?_
  refine xw_getR dy_restore_14 fl_y_16 (xl_n hn (by decide)) rfl r_18_6 ?_
  refine xw_iload1 dy_restore_17 ?_
  refine xw_iald dy_restore_18 (xl_n hn (by decide)) rfl vc_9_26 cn_9 ?_
  refine xw_iast dy_restore_19 (by decide) (xl_n hn (by decide)) rfl vc_9_26 cn_9 ?_
  refine xw_lw (fun s10 e_s10 => ?_)
  refine xw_iinc1 dy_restore_20 ic_9_1 (Nat.le_of_ble_eq_true rfl) rfl ?_
  refine xw_goto dy_restore_23 rfl ?_
  refine xw_iload1 dy_restore_2 ?_
  refine xw_bipush dy_restore_3 kb_26 ?_
  refine xw_icmp_ge_f dy_restore_5 rfl (by decide) ?_
  refine xw_aload0 dy_restore_8 ?_
  refine xw_getR dy_restore_9 fl_y_13 (xl_n hn (by decide)) rfl r_18_5 ?_
  refine xw_iload1 dy_restore_12 ?_
  refine xw_aload0 dy_restore_13 ?_
  refine xw_getR dy_restore_14 fl_y_16 (xl_n hn (by decide)) rfl r_18_6 ?_
  refine xw_iload1 dy_restore_17 ?_
  refine xw_iald dy_restore_18 (xl_n hn (by decide)) rfl vc_10_26 cn_10 ?_
  refine xw_iast dy_restore_19 (by decide) (xl_n hn (by decide)) rfl vc_10_26 cn_10 ?_
  refine xw_lw (fun s11 e_s11 => ?_)
  refine xw_iinc1 dy_restore_20 ic_10_1 (Nat.le_of_ble_eq_true rfl) rfl ?_
  refine xw_goto dy_restore_23 rfl ?_
  refine xw_iload1 dy_restore_2 ?_
  refine xw_bipush dy_restore_3 kb_26 ?_
  refine xw_icmp_ge_f dy_restore_5 rfl (by decide) ?_
  refine xw_aload0 dy_restore_8 ?_
  refine xw_getR dy_restore_9 fl_y_13 (xl_n hn (by decide)) rfl r_18_5 ?_
  refine xw_iload1 dy_restore_12 ?_
  refine xw_aload0 dy_restore_13 ?_
  refine xw_getR dy_restore_14 fl_y_16 (xl_n hn (by decide)) rfl r_18_6 ?_
  refine xw_iload1 dy_restore_17 ?_
  refine xw_iald dy_restore_18 (xl_n hn (by decide)) rfl vc_11_26 cn_11 ?_
  refine xw_iast dy_restore_19 (by decide) (xl_n hn (by decide)) rfl vc_11_26 cn_11 ?_
  refine xw_lw (fun s12 e_s12 => ?_)
  refine xw_iinc1 dy_restore_20 ic_11_1 (Nat.le_of_ble_eq_true rfl) rfl ?_
  refine xw_goto dy_restore_23 rfl ?_
  refine xw_iload1 dy_restore_2 ?_
  refine xw_bipush dy_restore_3 kb_26 ?_
  refine xw_icmp_ge_f dy_restore_5 rfl (by decide) ?_
  refine xw_aload0 dy_restore_8 ?_
  refine xw_getR dy_restore_9 fl_y_13 (xl_n hn (by decide)) rfl r_18_5 ?_
  refine xw_iload1 dy_restore_12 ?_
  refine xw_aload0 dy_restore_13 ?_
  refine xw_getR dy_restore_14 fl_y_16 (xl_n hn (by decide)) rfl r_18_6 ?_
  refine xw_iload1 dy_restore_17 ?_
  refine xw_iald dy_restore_18 (xl_n hn (by decide)) rfl vc_12_26 cn_12 ?_
  refine xw_iast dy_restore_19 (by decide) (xl_n hn (by decide)) rfl vc_12_26 cn_12 ?_
  refine xw_lw (fun s13 e_s13 => ?_)
  refine xw_iinc1 dy_restore_20 ic_12_1 (Nat.le_of_ble_eq_true rfl) rfl ?_
  refine xw_goto dy_restore_23 rfl ?_
  refine xw_iload1 dy_restore_2 ?_
  refine xw_bipush dy_restore_3 kb_26 ?_
  refine xw_icmp_ge_f dy_restore_5 rfl (by decide) ?_
  refine xw_aload0 dy_restore_8 ?_
  refine xw_getR dy_restore_9 fl_y_13 (xl_n hn (by decide)) rfl r_18_5 ?_
  refine xw_iload1 dy_restore_12 ?_
  refine xw_aload0 dy_restore_13 ?_
  refine xw_getR dy_restore_14 fl_y_16 (xl_n hn (by decide)) rfl r_18_6 ?_
  refine xw_iload1 dy_restore_17 ?_
  refine xw_iald dy_restore_18 (xl_n hn (by decide)) rfl vc_13_26 cn_13 ?_
  refine xw_iast dy_restore_19 (by decide) (xl_n hn (by decide)) rfl vc_13_26 cn_13 ?_
  refine xw_lw (fun s14 e_s14 => ?_)
  refine xw_iinc1 dy_restore_20 ic_13_1 (Nat.le_of_ble_eq_true rfl) rfl ?_
  refine xw_goto dy_restore_23 rfl ?_
  refine xw_iload1 dy_restore_2 ?_
  refine xw_bipush dy_restore_3 kb_26 ?_
  refine xw_icmp_ge_f dy_restore_5 rfl (by decide) ?_
  refine xw_aload0 dy_restore_8 ?_
  refine xw_getR dy_restore_9 fl_y_13 (xl_n hn (by decide)) rfl r_18_5 ?_
  refine xw_iload1 dy_restore_12 ?_
  refine xw_aload0 dy_restore_13 ?_
  refine xw_getR dy_restore_14 fl_y_16 (xl_n hn (by decide)) rfl r_18_6 ?_
  refine xw_iload1 dy_restore_17 ?_
  refine xw_iald dy_restore_18 (xl_n hn (by decide)) rfl vc_14_26 cn_14 ?_
  refine xw_iast dy_restore_19 (by decide) (xl_n hn (by decide)) rfl vc_14_26 cn_14 ?_
  refine xw_lw (fun s15 e_s15 => ?_)
  refine xw_iinc1 dy_restore_20 ic_14_1 (Nat.le_of_ble_eq_true rfl) rfl ?_
  refine xw_goto dy_restore_23 rfl ?_
  refine xw_iload1 dy_restore_2 ?_
  refine xw_bipush dy_restore_3 kb_26 ?_
  refine xw_icmp_ge_f dy_restore_5 rfl (by decide) ?_
  refine xw_aload0 dy_restore_8 ?_
  refine xw_getR dy_restore_9 fl_y_13 (xl_n hn (by decide)) rfl r_18_5 ?_
  refine xw_iload1 dy_restore_12 ?_
  refine xw_aload0 dy_restore_13 ?_
  refine xw_getR dy_restore_14 fl_y_16 (xl_n hn (by decide)) rfl r_18_6 ?_
  refine xw_iload1 dy_restore_17 ?_
  refine xw_iald dy_restore_18 (xl_n hn (by decide)) rfl vc_15_26 cn_15 ?_
  refine xw_iast dy_restore_19 (by decide) (xl_n hn (by decide)) rfl vc_15_26 cn_15 ?_
  refine xw_lw (fun s16 e_s16 => ?_)
  refine xw_iinc1 dy_restore_20 ic_15_1 (Nat.le_of_ble_eq_true rfl) rfl ?_
  refine xw_goto dy_restore_23 rfl ?_
  refine xw_iload1 dy_restore_2 ?_
  refine xw_bipush dy_restore_3 kb_26 ?_
  refine xw_icmp_ge_f dy_restore_5 rfl (by decide) ?_
  refine xw_aload0 dy_restore_8 ?_
  refine xw_getR dy_restore_9 fl_y_13 (xl_n hn (by decide)) rfl r_18_5 ?_
  refine xw_iload1 dy_restore_12 ?_
  refine xw_aload0 dy_restore_13 ?_
  refine xw_getR dy_restore_14 fl_y_16 (xl_n hn (by decide)) rfl r_18_6 ?_
  refine xw_iload1 dy_restore_17 ?_
  refine xw_iald dy_restore_18 (xl_n hn (by decide)) rfl vc_16_26 cn_16 ?_
  refine xw_iast dy_restore_19 (by decide) (xl_n hn (by decide)) rfl vc_16_26 cn_16 ?_
  refine xw_lw (fun s17 e_s17 => ?_)
  refine xw_iinc1 dy_restore_20 ic_16_1 (Nat.le_of_ble_eq_true rfl) rfl ?_
  refine xw_goto dy_restore_23 rfl ?_
  refine xw_iload1 dy_restore_2 ?_
  refine xw_bipush dy_restore_3 kb_26 ?_
  refine xw_icmp_ge_f dy_restore_5 rfl (by decide) ?_
  refine xw_aload0 dy_restore_8 ?_
  refine xw_getR dy_restore_9 fl_y_13 (xl_n hn (by decide)) rfl r_18_5 ?_
  refine xw_iload1 dy_restore_12 ?_
  refine xw_aload0 dy_restore_13 ?_
  refine xw_getR dy_restore_14 fl_y_16 (xl_n hn (by decide)) rfl r_18_6 ?_
  refine xw_iload1 dy_restore_17 ?_
  refine xw_iald dy_restore_18 (xl_n hn (by decide)) rfl vc_17_26 cn_17 ?_
  refine xw_iast dy_restore_19 (by decide) (xl_n hn (by decide)) rfl vc_17_26 cn_17 ?_
  refine xw_lw (fun s18 e_s18 => ?_)
  refine xw_iinc1 dy_restore_20 ic_17_1 (Nat.le_of_ble_eq_true rfl) rfl ?_
  refine xw_goto dy_restore_23 rfl ?_
  refine xw_iload1 dy_restore_2 ?_
  refine xw_bipush dy_restore_3 kb_26 ?_
  refine xw_icmp_ge_f dy_restore_5 rfl (by decide) ?_
  refine xw_aload0 dy_restore_8 ?_
  refine xw_getR dy_restore_9 fl_y_13 (xl_n hn (by decide)) rfl r_18_5 ?_
  refine xw_iload1 dy_restore_12 ?_
  refine xw_aload0 dy_restore_13 ?_
  refine xw_getR dy_restore_14 fl_y_16 (xl_n hn (by decide)) rfl r_18_6 ?_
  refine xw_iload1 dy_restore_17 ?_
  refine xw_iald dy_restore_18 (xl_n hn (by decide)) rfl vc_18_26 cn_18 ?_
  refine xw_iast dy_restore_19 (by decide) (xl_n hn (by decide)) rfl vc_18_26 cn_18 ?_
  refine xw_lw (fun s19 e_s19 => ?_)
  refine xw_iinc1 dy_restore_20 ic_18_1 (Nat.le_of_ble_eq_true rfl) rfl ?_
  refine xw_goto dy_restore_23 rfl ?_
  refine xw_iload1 dy_restore_2 ?_
  refine xw_bipush dy_restore_3 kb_26 ?_
  refine xw_icmp_ge_f dy_restore_5 rfl (by decide) ?_
  refine xw_aload0 dy_restore_8 ?_
  refine xw_getR dy_restore_9 fl_y_13 (xl_n hn (by decide)) rfl r_18_5 ?_
  refine xw_iload1 dy_restore_12 ?_
  refine xw_aload0 dy_restore_13 ?_
  refine xw_getR dy_restore_14 fl_y_16 (xl_n hn (by decide)) rfl r_18_6 ?_
  refine xw_iload1 dy_restore_17 ?_
  refine xw_iald dy_restore_18 (xl_n hn (by decide)) rfl vc_19_26 cn_19 ?_
  refine xw_iast dy_restore_19 (by decide) (xl_n hn (by decide)) rfl vc_19_26 cn_19 ?_
  refine xw_lw (fun s20 e_s20 => ?_)
  refine xw_iinc1 dy_restore_20 ic_19_1 (Nat.le_of_ble_eq_true rfl) rfl ?_
  refine xw_goto dy_restore_23 rfl ?_
  refine xw_iload1 dy_restore_2 ?_
  refine xw_bipush dy_restore_3 kb_26 ?_
  refine xw_icmp_ge_f dy_restore_5 rfl (by decide) ?_
  refine xw_aload0 dy_restore_8 ?_
  refine xw_getR dy_restore_9 fl_y_13 (xl_n hn (by decide)) rfl r_18_5 ?_
  refine xw_iload1 dy_restore_12 ?_
  refine xw_aload0 dy_restore_13 ?_
  refine xw_getR dy_restore_14 fl_y_16 (xl_n hn (by decide)) rfl r_18_6 ?_
  refine xw_iload1 dy_restore_17 ?_
  refine xw_iald dy_restore_18 (xl_n hn (by decide)) rfl vc_20_26 cn_20 ?_
  refine xw_iast dy_restore_19 (by decide) (xl_n hn (by decide)) rfl vc_20_26 cn_20 ?_
  refine xw_lw (fun s21 e_s21 => ?_)
  refine xw_iinc1 dy_restore_20 ic_20_1 (Nat.le_of_ble_eq_true rfl) rfl ?_
  refine xw_goto dy_restore_23 rfl ?_
  refine xw_iload1 dy_restore_2 ?_
  refine xw_bipush dy_restore_3 kb_26 ?_
  refine xw_icmp_ge_f dy_restore_5 rfl (by decide) ?_
  refine xw_aload0 dy_restore_8 ?_
  refine xw_getR dy_restore_9 fl_y_13 (xl_n hn (by decide)) rfl r_18_5 ?_
  refine xw_iload1 dy_restore_12 ?_
  refine xw_aload0 dy_restore_13 ?_
  refine xw_getR dy_restore_14 fl_y_16 (xl_n hn (by decide)) rfl r_18_6 ?_
  refine xw_iload1 dy_restore_17 ?_
  refine xw_iald dy_restore_18 (xl_n hn (by decide)) rfl vc_21_26 cn_21 ?_
  refine xw_iast dy_restore_19 (by decide) (xl_n hn (by decide)) rfl vc_21_26 cn_21 ?_
  refine xw_lw (fun s22 e_s22 => ?_)
  refine xw_iinc1 dy_restore_20 ic_21_1 (Nat.le_of_ble_eq_true rfl) rfl ?_
  refine xw_goto dy_restore_23 rfl ?_
  refine xw_iload1 dy_restore_2 ?_
  refine xw_bipush dy_restore_3 kb_26 ?_
  refine xw_icmp_ge_f dy_restore_5 rfl (by decide) ?_
  refine xw_aload0 dy_restore_8 ?_
  refine xw_getR dy_restore_9 fl_y_13 (xl_n hn (by decide)) rfl r_18_5 ?_
  refine xw_iload1 dy_restore_12 ?_
  refine xw_aload0 dy_restore_13 ?_
  refine xw_getR dy_restore_14 fl_y_16 (xl_n hn (by decide)) rfl r_18_6 ?_
  refine xw_iload1 dy_restore_17 ?_
  refine xw_iald dy_restore_18 (xl_n hn (by decide)) rfl vc_22_26 cn_22 ?_
  refine xw_iast dy_restore_19 (by decide) (xl_n hn (by decide)) rfl vc_22_26 cn_22 ?_
  refine xw_lw (fun s23 e_s23 => ?_)
  refine xw_iinc1 dy_restore_20 ic_22_1 (Nat.le_of_ble_eq_true rfl) rfl ?_
  refine xw_goto dy_restore_23 rfl ?_
  refine xw_iload1 dy_restore_2 ?_
  refine xw_bipush dy_restore_3 kb_26 ?_
  refine xw_icmp_ge_f dy_restore_5 rfl (by decide) ?_
  refine xw_aload0 dy_restore_8 ?_
  refine xw_getR dy_restore_9 fl_y_13 (xl_n hn (by decide)) rfl r_18_5 ?_
  refine xw_iload1 dy_restore_12 ?_
  refine xw_aload0 dy_restore_13 ?_
  refine xw_getR dy_restore_14 fl_y_16 (xl_n hn (by decide)) rfl r_18_6 ?_
  refine xw_iload1 dy_restore_17 ?_
  refine xw_iald dy_restore_18 (xl_n hn (by decide)) rfl vc_23_26 cn_23 ?_
  refine xw_iast dy_restore_19 (by decide) (xl_n hn (by decide)) rfl vc_23_26 cn_23 ?_
  refine xw_lw (fun s24 e_s24 => ?_)
  refine xw_iinc1 dy_restore_20 ic_23_1 (Nat.le_of_ble_eq_true rfl) rfl ?_
  refine xw_goto dy_restore_23 rfl ?_
  refine xw_iload1 dy_restore_2 ?_
  refine xw_bipush dy_restore_3 kb_26 ?_
  refine xw_icmp_ge_f dy_restore_5 rfl (by decide) ?_
  refine xw_aload0 dy_restore_8 ?_
  refine xw_getR dy_restore_9 fl_y_13 (xl_n hn (by decide)) rfl r_18_5 ?_
  refine xw_iload1 dy_restore_12 ?_
  refine xw_aload0 dy_restore_13 ?_
  refine xw_getR dy_restore_14 fl_y_16 (xl_n hn (by decide)) rfl r_18_6 ?_
  refine xw_iload1 dy_restore_17 ?_
  refine xw_iald dy_restore_18 (xl_n hn (by decide)) rfl vc_24_26 cn_24 ?_
  refine xw_iast dy_restore_19 (by decide) (xl_n hn (by decide)) rfl vc_24_26 cn_24 ?_
  refine xw_lw (fun s25 e_s25 => ?_)
  refine xw_iinc1 dy_restore_20 ic_24_1 (Nat.le_of_ble_eq_true rfl) rfl ?_
  refine xw_goto dy_restore_23 rfl ?_
  refine xw_iload1 dy_restore_2 ?_
  refine xw_bipush dy_restore_3 kb_26 ?_
  refine xw_icmp_ge_f dy_restore_5 rfl (by decide) ?_
  refine xw_aload0 dy_restore_8 ?_
  refine xw_getR dy_restore_9 fl_y_13 (xl_n hn (by decide)) rfl r_18_5 ?_
  refine xw_iload1 dy_restore_12 ?_
  refine xw_aload0 dy_restore_13 ?_
  refine xw_getR dy_restore_14 fl_y_16 (xl_n hn (by decide)) rfl r_18_6 ?_
  refine xw_iload1 dy_restore_17 ?_
  refine xw_iald dy_restore_18 (xl_n hn (by decide)) rfl vc_25_26 cn_25 ?_
  refine xw_iast dy_restore_19 (by decide) (xl_n hn (by decide)) rfl vc_25_26 cn_25 ?_
  refine xw_lw (fun s26 e_s26 => ?_)
  refine xw_iinc1 dy_restore_20 ic_25_1 (Nat.le_of_ble_eq_true rfl) rfl ?_
  refine xw_goto dy_restore_23 rfl ?_
  refine xw_iload1 dy_restore_2 ?_
  refine xw_bipush dy_restore_3 kb_26 ?_
  refine xw_icmp_ge_t dy_restore_5 rfl (by decide) ?_
  exact xw_vret dy_restore_26 rfl
theorem jy_restore {σ : xs_S} (hJ : yx_J σ) : yx_J (fy_restore σ) := by
  unfold fy_restore
  refine xj_wl (fun s1 e_s1 => ?_)
  have hJ_s1 : yx_J s1 := by rw [e_s1]; exact (yx_u hJ (by decide))
  refine xj_wl (fun s2 e_s2 => ?_)
  have hJ_s2 : yx_J s2 := by rw [e_s2]; exact (yx_u hJ_s1 (by decide))
  refine xj_wl (fun s3 e_s3 => ?_)
  have hJ_s3 : yx_J s3 := by rw [e_s3]; exact (yx_u hJ_s2 (by decide))
  refine xj_wl (fun s4 e_s4 => ?_)
  have hJ_s4 : yx_J s4 := by rw [e_s4]; exact (yx_u hJ_s3 (by decide))
  refine xj_wl (fun s5 e_s5 => ?_)
  have hJ_s5 : yx_J s5 := by rw [e_s5]; exact (yx_u hJ_s4 (by decide))
  refine xj_wl (fun s6 e_s6 => ?_)
  have hJ_s6 : yx_J s6 := by rw [e_s6]; exact (yx_u hJ_s5 (by decide))
  refine xj_wl (fun s7 e_s7 => ?_)
  have hJ_s7 : yx_J s7 := by rw [e_s7]; exact (yx_u hJ_s6 (by decide))
  refine xj_wl (fun s8 e_s8 => ?_)
  have hJ_s8 : yx_J s8 := by rw [e_s8]; exact (yx_u hJ_s7 (by decide))
  refine xj_wl (fun s9 e_s9 => ?_)
  have hJ_s9 : yx_J s9 := by rw [e_s9]; exact (yx_u hJ_s8 (by decide))
  refine xj_wl (fun s10 e_s10 => ?_)
  have hJ_s10 : yx_J s10 := by rw [e_s10]; exact (yx_u hJ_s9 (by decide))
  refine xj_wl (fun s11 e_s11 => ?_)
  have hJ_s11 : yx_J s11 := by rw [e_s11]; exact (yx_u hJ_s10 (by decide))
  refine xj_wl (fun s12 e_s12 => ?_)
  have hJ_s12 : yx_J s12 := by rw [e_s12]; exact (yx_u hJ_s11 (by decide))
  refine xj_wl (fun s13 e_s13 => ?_)
  have hJ_s13 : yx_J s13 := by rw [e_s13]; exact (yx_u hJ_s12 (by decide))
  refine xj_wl (fun s14 e_s14 => ?_)
  have hJ_s14 : yx_J s14 := by rw [e_s14]; exact (yx_u hJ_s13 (by decide))
  refine xj_wl (fun s15 e_s15 => ?_)
  have hJ_s15 : yx_J s15 := by rw [e_s15]; exact (yx_u hJ_s14 (by decide))
  refine xj_wl (fun s16 e_s16 => ?_)
  have hJ_s16 : yx_J s16 := by rw [e_s16]; exact (yx_u hJ_s15 (by decide))
  refine xj_wl (fun s17 e_s17 => ?_)
  have hJ_s17 : yx_J s17 := by rw [e_s17]; exact (yx_u hJ_s16 (by decide))
  refine xj_wl (fun s18 e_s18 => ?_)
  have hJ_s18 : yx_J s18 := by rw [e_s18]; exact (yx_u hJ_s17 (by decide))
  refine xj_wl (fun s19 e_s19 => ?_)
  have hJ_s19 : yx_J s19 := by rw [e_s19]; exact (yx_u hJ_s18 (by decide))
  refine xj_wl (fun s20 e_s20 => ?_)
  have hJ_s20 : yx_J s20 := by rw [e_s20]; exact (yx_u hJ_s19 (by decide))
  refine xj_wl (fun s21 e_s21 => ?_)
  have hJ_s21 : yx_J s21 := by rw [e_s21]; exact (yx_u hJ_s20 (by decide))
  refine xj_wl (fun s22 e_s22 => ?_)
  have hJ_s22 : yx_J s22 := by rw [e_s22]; exact (yx_u hJ_s21 (by decide))
  refine xj_wl (fun s23 e_s23 => ?_)
  have hJ_s23 : yx_J s23 := by rw [e_s23]; exact (yx_u hJ_s22 (by decide))
  refine xj_wl (fun s24 e_s24 => ?_)
  have hJ_s24 : yx_J s24 := by rw [e_s24]; exact (yx_u hJ_s23 (by decide))
  refine xj_wl (fun s25 e_s25 => ?_)
  have hJ_s25 : yx_J s25 := by rw [e_s25]; exact (jy_k2 hJ_s24)
  refine xj_wl (fun s26 e_s26 => ?_)
  have hJ_s26 : yx_J s26 := by rw [e_s26]; exact (yx_u hJ_s25 (by decide))
  exact hJ_s26
def fy_begins (σ : xs_S) : xs_S := xl_l ((fy_keep σ)) (fun s1 => xl_l ((xu_u s1 18 10 ((0 : Int32) &&& 1))) (fun s2 => xl_l ((xu_u s2 18 11 ((0 : Int32) &&& 1))) (fun s3 => s3)))
set_option maxRecDepth 100000 in
set_option maxHeartbeats 4000000 in
theorem my_begins {l : Launch} {N n u : Nat} {σ : xs_S} (hl : l.stackTraces = false) (hn : 29 ≤ n) : xm_m (xk_k N) l ty_begins [.ref 18] (n, u, σ, xr_0) (xe_w n u (fy_begins σ)) := by
  refine xm_of hl ok_y_begins (Nat.le_of_ble_eq_true rfl) ?_
  show xw_w (xk_k N) l ty_begins 0 [some (.ref 18)] [] (n, u, σ, xr_0) (xe_w n u (fy_begins σ))
  unfold fy_begins
  refine xw_aload0 dy_begins_0 ?_
  refine xw_cW dy_begins_1 (lk_y_begins_1 (xl_n hn (by decide)) rfl) ok_y_keep (my_keep hl hn) ⟨Nat.le_of_ble_eq_true rfl, Nat.le_of_ble_eq_true rfl⟩ ?_
  refine xw_lw (fun s1 e_s1 => ?_)
  refine xw_aload0 dy_begins_4 ?_
  refine xw_iconst dy_begins_5 ki_0 ?_
  refine xw_putZ dy_begins_6 fl_y_161 nf_5_10 (by decide) (xl_n hn (by decide)) rfl ?_
  refine xw_lw (fun s2 e_s2 => ?_)
  refine xw_aload0 dy_begins_9 ?_
  refine xw_iconst dy_begins_10 ki_0 ?_
  refine xw_putZ dy_begins_11 fl_y_109 nf_5_11 (by decide) (xl_n hn (by decide)) rfl ?_
  refine xw_lw (fun s3 e_s3 => ?_)
  exact xw_vret dy_begins_14 rfl
theorem jy_begins {σ : xs_S} (hJ : yx_J σ) : yx_J (fy_begins σ) := by
  unfold fy_begins
  refine xj_wl (fun s1 e_s1 => ?_)
  have hJ_s1 : yx_J s1 := by rw [e_s1]; exact (jy_keep hJ)
  refine xj_wl (fun s2 e_s2 => ?_)
  have hJ_s2 : yx_J s2 := by rw [e_s2]; exact (yx_u hJ_s1 (by decide))
  refine xj_wl (fun s3 e_s3 => ?_)
  have hJ_s3 : yx_J s3 := by rw [e_s3]; exact (yx_u hJ_s2 (by decide))
  exact hJ_s3
def fy_loadData (a1 : Int32) (σ : xs_S) : xs_S := (if (fy_isNull a1 σ) = 0 then xl_l ((fy_lookUp a1 (0 : Int32) σ)) (fun s2 => (if (fy_isRaised s2) = 0 then xl_l ((s2 24 0)) (fun v4 => xl_l ((if v4 = (2 : Int32) then (0 : Int32) else (if (s2 25 0) < (s2 20 21) then (1 : Int32) else (if (a1 &&& (3 : Int32)) ≤ (s2 25 0) then (0 : Int32) else (1 : Int32))))) (fun v5 => (if v4 < (1 : Int32) then xl_l ((fy_raise (13 : Int32) (fy_codeOf a1 s2) s2)) (fun s7 => s7) else (if (4 : Int32) < v4 then xl_l ((fy_raise (13 : Int32) (fy_codeOf a1 s2) s2)) (fun s9 => s9) else (if v5 = 0 then (if (s2 26 0) = 0 then xl_l ((fy_raise (11 : Int32) (fy_codeOf a1 s2) s2)) (fun s13 => s13) else xl_l ((fy_setSegment (2 : Int32) a1 (0 : Int32) s2)) (fun s12 => s12)) else xl_l ((fy_raise (13 : Int32) (fy_codeOf a1 s2) s2)) (fun s14 => s14)))))) else s2)) else xl_l ((fy_setNull (2 : Int32) a1 σ)) (fun s15 => s15))
set_option maxRecDepth 100000 in
set_option maxHeartbeats 4000000 in
theorem my_loadData {l : Launch} {N n u : Nat} {a1 : Int32} {σ : xs_S} (hl : l.stackTraces = false) (hn : 29 ≤ n) (hJ : yx_J σ) : xm_m (xk_k N) l ty_loadData [.ref 18, .int a1] (n, u, σ, xr_0) (xe_w n u (fy_loadData a1 σ)) := by
  refine xm_of hl ok_y_loadData (Nat.le_of_ble_eq_true rfl) ?_
  show xw_w (xk_k N) l ty_loadData 0 [some (.ref 18), some (.int a1), none, none] [] (n, u, σ, xr_0) (xe_w n u (fy_loadData a1 σ))
  unfold fy_loadData
  refine xw_iload1 dy_loadData_0 ?_
  refine xw_cVi dy_loadData_1 (lk_y_loadData_1) ok_y_isNull (my_isNull hl hn) ⟨Nat.le_of_ble_eq_true rfl, Nat.le_of_ble_eq_true rfl⟩ ?_
  refine xw_if_eq' dy_loadData_4 rfl (fun h1 => ?_) (fun h1 => ?_)
  · refine xw_aload0 dy_loadData_14 ?_
    refine xw_iload1 dy_loadData_15 ?_
    refine xw_iconst dy_loadData_16 ki_0 ?_
    refine xw_cW dy_loadData_17 (lk_y_loadData_17 (xl_n hn (by decide)) rfl) ok_y_lookUp (my_lookUp hl hn vc_0_2 hJ) ⟨Nat.le_of_ble_eq_true rfl, Nat.le_of_ble_eq_true rfl⟩ ?_
    refine xw_lw (fun s2 e_s2 => ?_)
    have hJ_s2 : yx_J s2 := by rw [e_s2]; exact (jy_lookUp vc_0_2 hJ)
    refine xw_aload0 dy_loadData_20 ?_
    refine xw_cVi dy_loadData_21 (lk_y_loadData_21 (xl_n hn (by decide)) rfl) ok_y_isRaised (my_isRaised hl hn) ⟨Nat.le_of_ble_eq_true rfl, Nat.le_of_ble_eq_true rfl⟩ ?_
    refine xw_if_eq' dy_loadData_24 rfl (fun h3 => ?_) (fun h3 => ?_)
    · refine xw_aload0 dy_loadData_28 ?_
      refine xw_getR dy_loadData_29 fl_y_29 (xl_n hn (by decide)) rfl r_18_14 ?_
      refine xw_iconst dy_loadData_32 ki_0 ?_
      refine xw_iald dy_loadData_33 (xl_n hn (by decide)) rfl vc_0_2 cn_0 ?_
      refine xw_li (fun v4 e_v4 => ?_)
      refine xw_istore2 dy_loadData_34 (Nat.le_of_ble_eq_true rfl) rfl ?_
      refine xw_iload2 dy_loadData_35 ?_
      refine xw_iconst dy_loadData_36 ki_2 ?_
      refine xw_icmp_eq_mi (J := 73) (a := (0 : Int32)) (b := (if (s2 25 0) < (s2 20 21) then (1 : Int32) else (if (a1 &&& (3 : Int32)) ≤ (s2 25 0) then (0 : Int32) else (1 : Int32)))) dy_loadData_37 rfl (fun _ E' k' => ?_) (fun _ E' k' => ?_) ?_
      · refine xw_iconst dy_loadData_72 ki_0 ?_
        exact k'
      · refine xw_aload0 dy_loadData_40 ?_
        refine xw_getR dy_loadData_41 fl_y_32 (xl_n hn (by decide)) rfl r_18_15 ?_
        refine xw_iconst dy_loadData_44 ki_0 ?_
        refine xw_iald dy_loadData_45 (xl_n hn (by decide)) rfl vc_0_2 cn_0 ?_
        refine xw_aload0 dy_loadData_46 ?_
        refine xw_getR dy_loadData_47 fl_y_13 (xl_n hn (by decide)) rfl r_18_5 ?_
        refine xw_bipush dy_loadData_50 kb_21 ?_
        refine xw_iald dy_loadData_52 (xl_n hn (by decide)) rfl vc_21_26 cn_21 ?_
        refine xw_icmp_lt_mi (J := 73) (a := (1 : Int32)) (b := (if (a1 &&& (3 : Int32)) ≤ (s2 25 0) then (0 : Int32) else (1 : Int32))) dy_loadData_53 rfl (fun _ E' k' => ?_) (fun _ E' k' => ?_) ?_
        · refine xw_iconst dy_loadData_68 ki_1 ?_
          refine xw_goto dy_loadData_69 rfl ?_
          exact k'
        · refine xw_aload0 dy_loadData_56 ?_
          refine xw_getR dy_loadData_57 fl_y_32 (xl_n hn (by decide)) rfl r_18_15 ?_
          refine xw_iconst dy_loadData_60 ki_0 ?_
          refine xw_iald dy_loadData_61 (xl_n hn (by decide)) rfl vc_0_2 cn_0 ?_
          refine xw_iload1 dy_loadData_62 ?_
          refine xw_iconst dy_loadData_63 ki_3 ?_
          refine xw_iand dy_loadData_64 ?_
          refine xw_icmp_ge_mi (J := 73) (a := (0 : Int32)) (b := (1 : Int32)) dy_loadData_65 rfl (fun _ E' k' => ?_) (fun _ E' k' => ?_) ?_
          · refine xw_iconst dy_loadData_72 ki_0 ?_
            exact k'
          · refine xw_iconst dy_loadData_68 ki_1 ?_
            refine xw_goto dy_loadData_69 rfl ?_
            exact k'
          exact k'
        exact k'
      refine xw_li (fun v5 e_v5 => ?_)
      refine xw_istore3 dy_loadData_73 (Nat.le_of_ble_eq_true rfl) rfl ?_
      refine xw_iload2 dy_loadData_74 ?_
      refine xw_iconst dy_loadData_75 ki_1 ?_
      refine xw_icmp_lt' dy_loadData_76 rfl (fun h6 => ?_) (fun h6 => ?_)
      · refine xw_aload0 dy_loadData_88 ?_
        refine xw_bipush dy_loadData_89 kb_13 ?_
        refine xw_iload1 dy_loadData_91 ?_
        refine xw_cVi dy_loadData_92 (lk_y_loadData_92) ok_y_codeOf (my_codeOf hl hn) ⟨Nat.le_of_ble_eq_true rfl, Nat.le_of_ble_eq_true rfl⟩ ?_
        refine xw_cW dy_loadData_95 (lk_y_loadData_95 (xl_n hn (by decide)) rfl) ok_y_raise (my_raise hl hn) ⟨Nat.le_of_ble_eq_true rfl, Nat.le_of_ble_eq_true rfl⟩ ?_
        refine xw_lw (fun s7 e_s7 => ?_)
        have hJ_s7 : yx_J s7 := by rw [e_s7]; exact (jy_raise hJ_s2)
        refine xw_goto dy_loadData_98 rfl ?_
        exact xw_vret dy_loadData_130 rfl
      · refine xw_iload2 dy_loadData_79 ?_
        refine xw_iconst dy_loadData_80 ki_4 ?_
        refine xw_icmp_gt' dy_loadData_81 rfl (fun h8 => ?_) (fun h8 => ?_)
        · refine xw_aload0 dy_loadData_88 ?_
          refine xw_bipush dy_loadData_89 kb_13 ?_
          refine xw_iload1 dy_loadData_91 ?_
          refine xw_cVi dy_loadData_92 (lk_y_loadData_92) ok_y_codeOf (my_codeOf hl hn) ⟨Nat.le_of_ble_eq_true rfl, Nat.le_of_ble_eq_true rfl⟩ ?_
          refine xw_cW dy_loadData_95 (lk_y_loadData_95 (xl_n hn (by decide)) rfl) ok_y_raise (my_raise hl hn) ⟨Nat.le_of_ble_eq_true rfl, Nat.le_of_ble_eq_true rfl⟩ ?_
          refine xw_lw (fun s9 e_s9 => ?_)
          have hJ_s9 : yx_J s9 := by rw [e_s9]; exact (jy_raise hJ_s2)
          refine xw_goto dy_loadData_98 rfl ?_
          exact xw_vret dy_loadData_130 rfl
        · refine xw_iload3 dy_loadData_84 ?_
          refine xw_if_eq' dy_loadData_85 rfl (fun h10 => ?_) (fun h10 => ?_)
          · refine xw_aload0 dy_loadData_101 ?_
            refine xw_getR dy_loadData_102 fl_y_35 (xl_n hn (by decide)) rfl r_18_16 ?_
            refine xw_iconst dy_loadData_105 ki_0 ?_
            refine xw_zald dy_loadData_106 (xl_n hn (by decide)) rfl vc_0_2 cn_0 ?_
            refine xw_if_ne' dy_loadData_107 rfl (fun h11 => ?_) (fun h11 => ?_)
            · refine xw_aload0 dy_loadData_123 ?_
              refine xw_iconst dy_loadData_124 ki_2 ?_
              refine xw_iload1 dy_loadData_125 ?_
              refine xw_iconst dy_loadData_126 ki_0 ?_
              refine xw_cW dy_loadData_127 (lk_y_loadData_127 (xl_n hn (by decide)) rfl) ok_y_setSegment (my_setSegment hl hn vc_2_3 vc_0_2) ⟨Nat.le_of_ble_eq_true rfl, Nat.le_of_ble_eq_true rfl⟩ ?_
              refine xw_lw (fun s12 e_s12 => ?_)
              have hJ_s12 : yx_J s12 := by rw [e_s12]; exact (jy_setSegment vc_2_3 vc_0_2 hJ_s2)
              exact xw_vret dy_loadData_130 rfl
            · refine xw_aload0 dy_loadData_110 ?_
              refine xw_bipush dy_loadData_111 kb_11 ?_
              refine xw_iload1 dy_loadData_113 ?_
              refine xw_cVi dy_loadData_114 (lk_y_loadData_114) ok_y_codeOf (my_codeOf hl hn) ⟨Nat.le_of_ble_eq_true rfl, Nat.le_of_ble_eq_true rfl⟩ ?_
              refine xw_cW dy_loadData_117 (lk_y_loadData_117 (xl_n hn (by decide)) rfl) ok_y_raise (my_raise hl hn) ⟨Nat.le_of_ble_eq_true rfl, Nat.le_of_ble_eq_true rfl⟩ ?_
              refine xw_lw (fun s13 e_s13 => ?_)
              have hJ_s13 : yx_J s13 := by rw [e_s13]; exact (jy_raise hJ_s2)
              refine xw_goto dy_loadData_120 rfl ?_
              exact xw_vret dy_loadData_130 rfl
          · refine xw_aload0 dy_loadData_88 ?_
            refine xw_bipush dy_loadData_89 kb_13 ?_
            refine xw_iload1 dy_loadData_91 ?_
            refine xw_cVi dy_loadData_92 (lk_y_loadData_92) ok_y_codeOf (my_codeOf hl hn) ⟨Nat.le_of_ble_eq_true rfl, Nat.le_of_ble_eq_true rfl⟩ ?_
            refine xw_cW dy_loadData_95 (lk_y_loadData_95 (xl_n hn (by decide)) rfl) ok_y_raise (my_raise hl hn) ⟨Nat.le_of_ble_eq_true rfl, Nat.le_of_ble_eq_true rfl⟩ ?_
            refine xw_lw (fun s14 e_s14 => ?_)
            have hJ_s14 : yx_J s14 := by rw [e_s14]; exact (jy_raise hJ_s2)
            refine xw_goto dy_loadData_98 rfl ?_
            exact xw_vret dy_loadData_130 rfl
    · exact xw_vret dy_loadData_27 rfl
  · refine xw_aload0 dy_loadData_7 ?_
    refine xw_iconst dy_loadData_8 ki_2 ?_
    refine xw_iload1 dy_loadData_9 ?_
    refine xw_cW dy_loadData_10 (lk_y_loadData_10 (xl_n hn (by decide)) rfl) ok_y_setNull (my_setNull hl hn vc_2_3) ⟨Nat.le_of_ble_eq_true rfl, Nat.le_of_ble_eq_true rfl⟩ ?_
    refine xw_lw (fun s15 e_s15 => ?_)
    have hJ_s15 : yx_J s15 := by rw [e_s15]; exact (jy_setNull vc_2_3 hJ)
    exact xw_vret dy_loadData_13 rfl
theorem jy_loadData {a1 : Int32} {σ : xs_S} (hJ : yx_J σ) : yx_J (fy_loadData a1 σ) := by
  unfold fy_loadData
  refine xj_wf (fun h1 => ?_) (fun h1 => ?_)
  · refine xj_wl (fun s2 e_s2 => ?_)
    have hJ_s2 : yx_J s2 := by rw [e_s2]; exact (jy_lookUp vc_0_2 hJ)
    refine xj_wf (fun h3 => ?_) (fun h3 => ?_)
    · refine xj_wl (fun v4 e_v4 => ?_)
      refine xj_wl (fun v5 e_v5 => ?_)
      refine xj_wf (fun h6 => ?_) (fun h6 => ?_)
      · refine xj_wl (fun s7 e_s7 => ?_)
        have hJ_s7 : yx_J s7 := by rw [e_s7]; exact (jy_raise hJ_s2)
        exact hJ_s7
      · refine xj_wf (fun h8 => ?_) (fun h8 => ?_)
        · refine xj_wl (fun s9 e_s9 => ?_)
          have hJ_s9 : yx_J s9 := by rw [e_s9]; exact (jy_raise hJ_s2)
          exact hJ_s9
        · refine xj_wf (fun h10 => ?_) (fun h10 => ?_)
          · refine xj_wf (fun h11 => ?_) (fun h11 => ?_)
            · refine xj_wl (fun s13 e_s13 => ?_)
              have hJ_s13 : yx_J s13 := by rw [e_s13]; exact (jy_raise hJ_s2)
              exact hJ_s13
            · refine xj_wl (fun s12 e_s12 => ?_)
              have hJ_s12 : yx_J s12 := by rw [e_s12]; exact (jy_setSegment vc_2_3 vc_0_2 hJ_s2)
              exact hJ_s12
          · refine xj_wl (fun s14 e_s14 => ?_)
            have hJ_s14 : yx_J s14 := by rw [e_s14]; exact (jy_raise hJ_s2)
            exact hJ_s14
    · exact hJ_s2
  · refine xj_wl (fun s15 e_s15 => ?_)
    have hJ_s15 : yx_J s15 := by rw [e_s15]; exact (jy_setNull vc_2_3 hJ)
    exact hJ_s15
def fy_loadStack (a1 : Int32) (σ : xs_S) : xs_S := xl_l ((if (fy_isNull a1 σ) = 0 then (fy_lookUp a1 (0 : Int32) σ) else (fy_raise (13 : Int32) (0 : Int32) σ))) (fun s1 => (if (fy_isRaised s1) = 0 then (if (a1 &&& (3 : Int32)) = (s1 20 21) then (if (s1 25 0) = (s1 20 21) then (if (s1 24 0) = (4 : Int32) then (if (s1 26 0) = 0 then xl_l ((fy_raise (12 : Int32) (fy_codeOf a1 s1) s1)) (fun s10 => s10) else xl_l ((fy_setSegment (1 : Int32) a1 (0 : Int32) s1)) (fun s9 => s9)) else xl_l ((fy_raise (13 : Int32) (fy_codeOf a1 s1) s1)) (fun s11 => s11)) else xl_l ((fy_raise (13 : Int32) (fy_codeOf a1 s1) s1)) (fun s6 => s6)) else xl_l ((fy_raise (13 : Int32) (fy_codeOf a1 s1) s1)) (fun s4 => s4)) else s1))
set_option maxRecDepth 100000 in
set_option maxHeartbeats 4000000 in
theorem my_loadStack {l : Launch} {N n u : Nat} {a1 : Int32} {σ : xs_S} (hl : l.stackTraces = false) (hn : 29 ≤ n) (hJ : yx_J σ) : xm_m (xk_k N) l ty_loadStack [.ref 18, .int a1] (n, u, σ, xr_0) (xe_w n u (fy_loadStack a1 σ)) := by
  refine xm_of hl ok_y_loadStack (Nat.le_of_ble_eq_true rfl) ?_
  show xw_w (xk_k N) l ty_loadStack 0 [some (.ref 18), some (.int a1)] [] (n, u, σ, xr_0) (xe_w n u (fy_loadStack a1 σ))
  unfold fy_loadStack
  refine xw_iload1 dy_loadStack_0 ?_
  refine xw_cVi dy_loadStack_1 (lk_y_loadStack_1) ok_y_isNull (my_isNull hl hn) ⟨Nat.le_of_ble_eq_true rfl, Nat.le_of_ble_eq_true rfl⟩ ?_
  refine xw_if_eq_mw (J := 23) (a := (fy_lookUp a1 (0 : Int32) σ)) (b := (fy_raise (13 : Int32) (0 : Int32) σ)) dy_loadStack_4 rfl (fun _ E' k' => ?_) (fun _ E' k' => ?_) ?_
  · refine xw_aload0 dy_loadStack_17 ?_
    refine xw_iload1 dy_loadStack_18 ?_
    refine xw_iconst dy_loadStack_19 ki_0 ?_
    refine xw_cW dy_loadStack_20 (lk_y_loadStack_20 (xl_n hn (by decide)) rfl) ok_y_lookUp (my_lookUp hl hn vc_0_2 hJ) ⟨Nat.le_of_ble_eq_true rfl, Nat.le_of_ble_eq_true rfl⟩ ?_
    exact k'
  · refine xw_aload0 dy_loadStack_7 ?_
    refine xw_bipush dy_loadStack_8 kb_13 ?_
    refine xw_iconst dy_loadStack_10 ki_0 ?_
    refine xw_cW dy_loadStack_11 (lk_y_loadStack_11 (xl_n hn (by decide)) rfl) ok_y_raise (my_raise hl hn) ⟨Nat.le_of_ble_eq_true rfl, Nat.le_of_ble_eq_true rfl⟩ ?_
    refine xw_goto dy_loadStack_14 rfl ?_
    exact k'
  refine xw_lw (fun s1 e_s1 => ?_)
  have hJ_s1 : yx_J s1 := by rw [e_s1]; exact (xj_i (fun _ => (jy_lookUp vc_0_2 hJ)) (fun _ => (jy_raise hJ)))
  refine xw_aload0 dy_loadStack_23 ?_
  refine xw_cVi dy_loadStack_24 (lk_y_loadStack_24 (xl_n hn (by decide)) rfl) ok_y_isRaised (my_isRaised hl hn) ⟨Nat.le_of_ble_eq_true rfl, Nat.le_of_ble_eq_true rfl⟩ ?_
  refine xw_if_eq' dy_loadStack_27 rfl (fun h2 => ?_) (fun h2 => ?_)
  · refine xw_iload1 dy_loadStack_31 ?_
    refine xw_iconst dy_loadStack_32 ki_3 ?_
    refine xw_iand dy_loadStack_33 ?_
    refine xw_aload0 dy_loadStack_34 ?_
    refine xw_getR dy_loadStack_35 fl_y_13 (xl_n hn (by decide)) rfl r_18_5 ?_
    refine xw_bipush dy_loadStack_38 kb_21 ?_
    refine xw_iald dy_loadStack_40 (xl_n hn (by decide)) rfl vc_21_26 cn_21 ?_
    refine xw_icmp_ne' dy_loadStack_41 rfl (fun h3 => ?_) (fun h3 => ?_)
    · refine xw_aload0 dy_loadStack_70 ?_
      refine xw_bipush dy_loadStack_71 kb_13 ?_
      refine xw_iload1 dy_loadStack_73 ?_
      refine xw_cVi dy_loadStack_74 (lk_y_loadStack_74) ok_y_codeOf (my_codeOf hl hn) ⟨Nat.le_of_ble_eq_true rfl, Nat.le_of_ble_eq_true rfl⟩ ?_
      refine xw_cW dy_loadStack_77 (lk_y_loadStack_77 (xl_n hn (by decide)) rfl) ok_y_raise (my_raise hl hn) ⟨Nat.le_of_ble_eq_true rfl, Nat.le_of_ble_eq_true rfl⟩ ?_
      refine xw_lw (fun s4 e_s4 => ?_)
      have hJ_s4 : yx_J s4 := by rw [e_s4]; exact (jy_raise hJ_s1)
      refine xw_goto dy_loadStack_80 rfl ?_
      exact xw_vret dy_loadStack_112 rfl
    · refine xw_aload0 dy_loadStack_44 ?_
      refine xw_getR dy_loadStack_45 fl_y_32 (xl_n hn (by decide)) rfl r_18_15 ?_
      refine xw_iconst dy_loadStack_48 ki_0 ?_
      refine xw_iald dy_loadStack_49 (xl_n hn (by decide)) rfl vc_0_2 cn_0 ?_
      refine xw_aload0 dy_loadStack_50 ?_
      refine xw_getR dy_loadStack_51 fl_y_13 (xl_n hn (by decide)) rfl r_18_5 ?_
      refine xw_bipush dy_loadStack_54 kb_21 ?_
      refine xw_iald dy_loadStack_56 (xl_n hn (by decide)) rfl vc_21_26 cn_21 ?_
      refine xw_icmp_ne' dy_loadStack_57 rfl (fun h5 => ?_) (fun h5 => ?_)
      · refine xw_aload0 dy_loadStack_70 ?_
        refine xw_bipush dy_loadStack_71 kb_13 ?_
        refine xw_iload1 dy_loadStack_73 ?_
        refine xw_cVi dy_loadStack_74 (lk_y_loadStack_74) ok_y_codeOf (my_codeOf hl hn) ⟨Nat.le_of_ble_eq_true rfl, Nat.le_of_ble_eq_true rfl⟩ ?_
        refine xw_cW dy_loadStack_77 (lk_y_loadStack_77 (xl_n hn (by decide)) rfl) ok_y_raise (my_raise hl hn) ⟨Nat.le_of_ble_eq_true rfl, Nat.le_of_ble_eq_true rfl⟩ ?_
        refine xw_lw (fun s6 e_s6 => ?_)
        have hJ_s6 : yx_J s6 := by rw [e_s6]; exact (jy_raise hJ_s1)
        refine xw_goto dy_loadStack_80 rfl ?_
        exact xw_vret dy_loadStack_112 rfl
      · refine xw_aload0 dy_loadStack_60 ?_
        refine xw_getR dy_loadStack_61 fl_y_29 (xl_n hn (by decide)) rfl r_18_14 ?_
        refine xw_iconst dy_loadStack_64 ki_0 ?_
        refine xw_iald dy_loadStack_65 (xl_n hn (by decide)) rfl vc_0_2 cn_0 ?_
        refine xw_iconst dy_loadStack_66 ki_4 ?_
        refine xw_icmp_eq' dy_loadStack_67 rfl (fun h7 => ?_) (fun h7 => ?_)
        · refine xw_aload0 dy_loadStack_83 ?_
          refine xw_getR dy_loadStack_84 fl_y_35 (xl_n hn (by decide)) rfl r_18_16 ?_
          refine xw_iconst dy_loadStack_87 ki_0 ?_
          refine xw_zald dy_loadStack_88 (xl_n hn (by decide)) rfl vc_0_2 cn_0 ?_
          refine xw_if_ne' dy_loadStack_89 rfl (fun h8 => ?_) (fun h8 => ?_)
          · refine xw_aload0 dy_loadStack_105 ?_
            refine xw_iconst dy_loadStack_106 ki_1 ?_
            refine xw_iload1 dy_loadStack_107 ?_
            refine xw_iconst dy_loadStack_108 ki_0 ?_
            refine xw_cW dy_loadStack_109 (lk_y_loadStack_109 (xl_n hn (by decide)) rfl) ok_y_setSegment (my_setSegment hl hn vc_1_3 vc_0_2) ⟨Nat.le_of_ble_eq_true rfl, Nat.le_of_ble_eq_true rfl⟩ ?_
            refine xw_lw (fun s9 e_s9 => ?_)
            have hJ_s9 : yx_J s9 := by rw [e_s9]; exact (jy_setSegment vc_1_3 vc_0_2 hJ_s1)
            exact xw_vret dy_loadStack_112 rfl
          · refine xw_aload0 dy_loadStack_92 ?_
            refine xw_bipush dy_loadStack_93 kb_12 ?_
            refine xw_iload1 dy_loadStack_95 ?_
            refine xw_cVi dy_loadStack_96 (lk_y_loadStack_96) ok_y_codeOf (my_codeOf hl hn) ⟨Nat.le_of_ble_eq_true rfl, Nat.le_of_ble_eq_true rfl⟩ ?_
            refine xw_cW dy_loadStack_99 (lk_y_loadStack_99 (xl_n hn (by decide)) rfl) ok_y_raise (my_raise hl hn) ⟨Nat.le_of_ble_eq_true rfl, Nat.le_of_ble_eq_true rfl⟩ ?_
            refine xw_lw (fun s10 e_s10 => ?_)
            have hJ_s10 : yx_J s10 := by rw [e_s10]; exact (jy_raise hJ_s1)
            refine xw_goto dy_loadStack_102 rfl ?_
            exact xw_vret dy_loadStack_112 rfl
        · refine xw_aload0 dy_loadStack_70 ?_
          refine xw_bipush dy_loadStack_71 kb_13 ?_
          refine xw_iload1 dy_loadStack_73 ?_
          refine xw_cVi dy_loadStack_74 (lk_y_loadStack_74) ok_y_codeOf (my_codeOf hl hn) ⟨Nat.le_of_ble_eq_true rfl, Nat.le_of_ble_eq_true rfl⟩ ?_
          refine xw_cW dy_loadStack_77 (lk_y_loadStack_77 (xl_n hn (by decide)) rfl) ok_y_raise (my_raise hl hn) ⟨Nat.le_of_ble_eq_true rfl, Nat.le_of_ble_eq_true rfl⟩ ?_
          refine xw_lw (fun s11 e_s11 => ?_)
          have hJ_s11 : yx_J s11 := by rw [e_s11]; exact (jy_raise hJ_s1)
          refine xw_goto dy_loadStack_80 rfl ?_
          exact xw_vret dy_loadStack_112 rfl
  · exact xw_vret dy_loadStack_30 rfl
theorem jy_loadStack {a1 : Int32} {σ : xs_S} (hJ : yx_J σ) : yx_J (fy_loadStack a1 σ) := by
  unfold fy_loadStack
  refine xj_wl (fun s1 e_s1 => ?_)
  have hJ_s1 : yx_J s1 := by rw [e_s1]; exact (xj_i (fun _ => (jy_lookUp vc_0_2 hJ)) (fun _ => (jy_raise hJ)))
  refine xj_wf (fun h2 => ?_) (fun h2 => ?_)
  · refine xj_wf (fun h3 => ?_) (fun h3 => ?_)
    · refine xj_wf (fun h5 => ?_) (fun h5 => ?_)
      · refine xj_wf (fun h7 => ?_) (fun h7 => ?_)
        · refine xj_wf (fun h8 => ?_) (fun h8 => ?_)
          · refine xj_wl (fun s10 e_s10 => ?_)
            have hJ_s10 : yx_J s10 := by rw [e_s10]; exact (jy_raise hJ_s1)
            exact hJ_s10
          · refine xj_wl (fun s9 e_s9 => ?_)
            have hJ_s9 : yx_J s9 := by rw [e_s9]; exact (jy_setSegment vc_1_3 vc_0_2 hJ_s1)
            exact hJ_s9
        · refine xj_wl (fun s11 e_s11 => ?_)
          have hJ_s11 : yx_J s11 := by rw [e_s11]; exact (jy_raise hJ_s1)
          exact hJ_s11
      · refine xj_wl (fun s6 e_s6 => ?_)
        have hJ_s6 : yx_J s6 := by rw [e_s6]; exact (jy_raise hJ_s1)
        exact hJ_s6
    · refine xj_wl (fun s4 e_s4 => ?_)
      have hJ_s4 : yx_J s4 := by rw [e_s4]; exact (jy_raise hJ_s1)
      exact hJ_s4
  · exact hJ_s1
def fy_leaveTask (σ : xs_S) : xs_S := xl_l (fy_readWord (σ 20 23) (1 : Int32) σ) (fun r1 => (if (fy_isRaised r1.2) = 0 then xl_l ((if (fy_isNull r1.1 r1.2) = 0 then (fy_lookUp r1.1 (0 : Int32) r1.2) else (fy_raise (13 : Int32) (0 : Int32) r1.2))) (fun s3 => (if (fy_isRaised s3) = 0 then (if (s3 24 0) = (5 : Int32) then xl_l ((fy_switchTo r1.1 (2 : Int32) s3)) (fun s6 => s6) else (if (s3 24 0) = (6 : Int32) then xl_l ((fy_switchTo r1.1 (2 : Int32) s3)) (fun s8 => s8) else xl_l ((fy_raise (13 : Int32) (0 : Int32) s3)) (fun s9 => s9))) else s3)) else r1.2))
set_option maxRecDepth 100000 in
set_option maxHeartbeats 4000000 in
theorem my_leaveTask {l : Launch} {N n u : Nat} {σ : xs_S} (hl : l.stackTraces = false) (hn : 29 ≤ n) (hJ : yx_J σ) : xm_m (xk_k N) l ty_leaveTask [.ref 18] (n, u, σ, xr_0) (xe_w n u (fy_leaveTask σ)) := by
  refine xm_of hl ok_y_leaveTask (Nat.le_of_ble_eq_true rfl) ?_
  show xw_w (xk_k N) l ty_leaveTask 0 [some (.ref 18), none] [] (n, u, σ, xr_0) (xe_w n u (fy_leaveTask σ))
  unfold fy_leaveTask
  refine xw_aload0 dy_leaveTask_0 ?_
  refine xw_aload0 dy_leaveTask_1 ?_
  refine xw_getR dy_leaveTask_2 fl_y_13 (xl_n hn (by decide)) rfl r_18_5 ?_
  refine xw_bipush dy_leaveTask_5 kb_23 ?_
  refine xw_iald dy_leaveTask_7 (xl_n hn (by decide)) rfl vc_23_26 cn_23 ?_
  refine xw_iconst dy_leaveTask_8 ki_1 ?_
  refine xw_cPi dy_leaveTask_9 (lk_y_leaveTask_9 (xl_n hn (by decide)) rfl) ok_y_readWord (my_readWord hl hn hJ) ⟨Nat.le_of_ble_eq_true rfl, Nat.le_of_ble_eq_true rfl⟩ ?_
  refine xw_lpi (fun r1 e_r1 => ?_)
  have hJ_r1 : yx_J r1.2 := by rw [e_r1]; exact (jy_readWord hJ)
  refine xw_istore1 dy_leaveTask_12 (Nat.le_of_ble_eq_true rfl) rfl ?_
  refine xw_aload0 dy_leaveTask_13 ?_
  refine xw_cVi dy_leaveTask_14 (lk_y_leaveTask_14 (xl_n hn (by decide)) rfl) ok_y_isRaised (my_isRaised hl hn) ⟨Nat.le_of_ble_eq_true rfl, Nat.le_of_ble_eq_true rfl⟩ ?_
  refine xw_if_eq' dy_leaveTask_17 rfl (fun h2 => ?_) (fun h2 => ?_)
  · refine xw_iload1 dy_leaveTask_21 ?_
    refine xw_cVi dy_leaveTask_22 (lk_y_leaveTask_22) ok_y_isNull (my_isNull hl hn) ⟨Nat.le_of_ble_eq_true rfl, Nat.le_of_ble_eq_true rfl⟩ ?_
    refine xw_if_eq_mw (J := 44) (a := (fy_lookUp r1.1 (0 : Int32) r1.2)) (b := (fy_raise (13 : Int32) (0 : Int32) r1.2)) dy_leaveTask_25 rfl (fun _ E' k' => ?_) (fun _ E' k' => ?_) ?_
    · refine xw_aload0 dy_leaveTask_38 ?_
      refine xw_iload1 dy_leaveTask_39 ?_
      refine xw_iconst dy_leaveTask_40 ki_0 ?_
      refine xw_cW dy_leaveTask_41 (lk_y_leaveTask_41 (xl_n hn (by decide)) rfl) ok_y_lookUp (my_lookUp hl hn vc_0_2 hJ_r1) ⟨Nat.le_of_ble_eq_true rfl, Nat.le_of_ble_eq_true rfl⟩ ?_
      exact k'
    · refine xw_aload0 dy_leaveTask_28 ?_
      refine xw_bipush dy_leaveTask_29 kb_13 ?_
      refine xw_iconst dy_leaveTask_31 ki_0 ?_
      refine xw_cW dy_leaveTask_32 (lk_y_leaveTask_32 (xl_n hn (by decide)) rfl) ok_y_raise (my_raise hl hn) ⟨Nat.le_of_ble_eq_true rfl, Nat.le_of_ble_eq_true rfl⟩ ?_
      refine xw_goto dy_leaveTask_35 rfl ?_
      exact k'
    refine xw_lw (fun s3 e_s3 => ?_)
    have hJ_s3 : yx_J s3 := by rw [e_s3]; exact (xj_i (fun _ => (jy_lookUp vc_0_2 hJ_r1)) (fun _ => (jy_raise hJ_r1)))
    refine xw_aload0 dy_leaveTask_44 ?_
    refine xw_cVi dy_leaveTask_45 (lk_y_leaveTask_45 (xl_n hn (by decide)) rfl) ok_y_isRaised (my_isRaised hl hn) ⟨Nat.le_of_ble_eq_true rfl, Nat.le_of_ble_eq_true rfl⟩ ?_
    refine xw_if_eq' dy_leaveTask_48 rfl (fun h4 => ?_) (fun h4 => ?_)
    · refine xw_aload0 dy_leaveTask_52 ?_
      refine xw_getR dy_leaveTask_53 fl_y_29 (xl_n hn (by decide)) rfl r_18_14 ?_
      refine xw_iconst dy_leaveTask_56 ki_0 ?_
      refine xw_iald dy_leaveTask_57 (xl_n hn (by decide)) rfl vc_0_2 cn_0 ?_
      refine xw_iconst dy_leaveTask_58 ki_5 ?_
      refine xw_icmp_eq' dy_leaveTask_59 rfl (fun h5 => ?_) (fun h5 => ?_)
      · refine xw_aload0 dy_leaveTask_83 ?_
        refine xw_iload1 dy_leaveTask_84 ?_
        refine xw_iconst dy_leaveTask_85 ki_2 ?_
        refine xw_cW dy_leaveTask_86 (lk_y_leaveTask_86 (xl_n hn (by decide)) rfl) ok_y_switchTo (my_switchTo hl hn hJ_s3) ⟨Nat.le_of_ble_eq_true rfl, Nat.le_of_ble_eq_true rfl⟩ ?_
        refine xw_lw (fun s6 e_s6 => ?_)
        have hJ_s6 : yx_J s6 := by rw [e_s6]; exact (jy_switchTo hJ_s3)
        exact xw_vret dy_leaveTask_89 rfl
      · refine xw_aload0 dy_leaveTask_62 ?_
        refine xw_getR dy_leaveTask_63 fl_y_29 (xl_n hn (by decide)) rfl r_18_14 ?_
        refine xw_iconst dy_leaveTask_66 ki_0 ?_
        refine xw_iald dy_leaveTask_67 (xl_n hn (by decide)) rfl vc_0_2 cn_0 ?_
        refine xw_bipush dy_leaveTask_68 kb_6 ?_
        refine xw_icmp_eq' dy_leaveTask_70 rfl (fun h7 => ?_) (fun h7 => ?_)
        · refine xw_aload0 dy_leaveTask_83 ?_
          refine xw_iload1 dy_leaveTask_84 ?_
          refine xw_iconst dy_leaveTask_85 ki_2 ?_
          refine xw_cW dy_leaveTask_86 (lk_y_leaveTask_86 (xl_n hn (by decide)) rfl) ok_y_switchTo (my_switchTo hl hn hJ_s3) ⟨Nat.le_of_ble_eq_true rfl, Nat.le_of_ble_eq_true rfl⟩ ?_
          refine xw_lw (fun s8 e_s8 => ?_)
          have hJ_s8 : yx_J s8 := by rw [e_s8]; exact (jy_switchTo hJ_s3)
          exact xw_vret dy_leaveTask_89 rfl
        · refine xw_aload0 dy_leaveTask_73 ?_
          refine xw_bipush dy_leaveTask_74 kb_13 ?_
          refine xw_iconst dy_leaveTask_76 ki_0 ?_
          refine xw_cW dy_leaveTask_77 (lk_y_leaveTask_77 (xl_n hn (by decide)) rfl) ok_y_raise (my_raise hl hn) ⟨Nat.le_of_ble_eq_true rfl, Nat.le_of_ble_eq_true rfl⟩ ?_
          refine xw_lw (fun s9 e_s9 => ?_)
          have hJ_s9 : yx_J s9 := by rw [e_s9]; exact (jy_raise hJ_s3)
          refine xw_goto dy_leaveTask_80 rfl ?_
          exact xw_vret dy_leaveTask_89 rfl
    · exact xw_vret dy_leaveTask_51 rfl
  · exact xw_vret dy_leaveTask_20 rfl
theorem jy_leaveTask {σ : xs_S} (hJ : yx_J σ) : yx_J (fy_leaveTask σ) := by
  unfold fy_leaveTask
  refine xj_wl (fun r1 e_r1 => ?_)
  have hJ_r1 : yx_J r1.2 := by rw [e_r1]; exact (jy_readWord hJ)
  refine xj_wf (fun h2 => ?_) (fun h2 => ?_)
  · refine xj_wl (fun s3 e_s3 => ?_)
    have hJ_s3 : yx_J s3 := by rw [e_s3]; exact (xj_i (fun _ => (jy_lookUp vc_0_2 hJ_r1)) (fun _ => (jy_raise hJ_r1)))
    refine xj_wf (fun h4 => ?_) (fun h4 => ?_)
    · refine xj_wf (fun h5 => ?_) (fun h5 => ?_)
      · refine xj_wl (fun s6 e_s6 => ?_)
        have hJ_s6 : yx_J s6 := by rw [e_s6]; exact (jy_switchTo hJ_s3)
        exact hJ_s6
      · refine xj_wf (fun h7 => ?_) (fun h7 => ?_)
        · refine xj_wl (fun s8 e_s8 => ?_)
          have hJ_s8 : yx_J s8 := by rw [e_s8]; exact (jy_switchTo hJ_s3)
          exact hJ_s8
        · refine xj_wl (fun s9 e_s9 => ?_)
          have hJ_s9 : yx_J s9 := by rw [e_s9]; exact (jy_raise hJ_s3)
          exact hJ_s9
    · exact hJ_s3
  · exact hJ_r1
def fy_poke (a1 : Int32) (a2 : Int32) (σ : xs_S) : Int32 × xs_S := (if a1 < 0 then ((0 : Int32), σ) else (if a1 ≤ (2047 : Int32) then xl_l ((xu_u σ 19 (a1).toNatClampNeg (a2 &&& (255 : Int32)))) (fun s3 => ((1 : Int32), s3)) else ((0 : Int32), σ)))
set_option maxRecDepth 100000 in
set_option maxHeartbeats 4000000 in
theorem my_poke {l : Launch} {N n u : Nat} {a1 : Int32} {a2 : Int32} {σ : xs_S} (hl : l.stackTraces = false) (hn : 29 ≤ n) : xm_m (xk_k N) l ty_poke [.ref 18, .int a1, .int a2] (n, u, σ, xr_0) (xe_p ei_i n u (fy_poke a1 a2 σ)) := by
  refine xm_of hl ok_y_poke (Nat.le_of_ble_eq_true rfl) ?_
  show xw_w (xk_k N) l ty_poke 0 [some (.ref 18), some (.int a1), some (.int a2)] [] (n, u, σ, xr_0) (xe_p ei_i n u (fy_poke a1 a2 σ))
  unfold fy_poke
  refine xw_iload1 dy_poke_0 ?_
  refine xw_if_lt' dy_poke_1 rfl (fun h1 => ?_) (fun h1 => ?_)
  · refine xw_iconst dy_poke_11 ki_0 ?_
    exact xw_zret dy_poke_12 rfl (by decide)
  · refine xw_iload1 dy_poke_4 ?_
    refine xw_sipush dy_poke_5 ks_2047 ?_
    refine xw_icmp_le' dy_poke_8 rfl (fun h2 => ?_) (fun h2 => ?_)
    · refine xw_aload0 dy_poke_13 ?_
      refine xw_getR dy_poke_14 fl_y_7 (xl_n hn (by decide)) rfl r_18_0 ?_
      refine xw_iload1 dy_poke_17 ?_
      refine xw_iload2 dy_poke_18 ?_
      refine xw_sipush dy_poke_19 ks_255 ?_
      refine xw_iand dy_poke_22 ?_
      refine xw_iast dy_poke_23 (by decide) (xl_n hn (by decide)) rfl (vi_p h1 h2) rfl ?_
      refine xw_lw (fun s3 e_s3 => ?_)
      refine xw_iconst dy_poke_24 ki_1 ?_
      exact xw_zret dy_poke_25 rfl (by decide)
    · refine xw_iconst dy_poke_11 ki_0 ?_
      exact xw_zret dy_poke_12 rfl (by decide)
theorem jy_poke {a1 : Int32} {a2 : Int32} {σ : xs_S} (hJ : yx_J σ) : yx_J (fy_poke a1 a2 σ).2 := by
  unfold fy_poke
  refine xj_f (fun h1 => ?_) (fun h1 => ?_)
  · exact hJ
  · refine xj_f (fun h2 => ?_) (fun h2 => ?_)
    · refine xj_l (fun s3 e_s3 => ?_)
      have hJ_s3 : yx_J s3 := by rw [e_s3]; exact (yx_c hJ (by decide))
      exact hJ_s3
    · exact hJ
def fy_peek (a1 : Int32) (σ : xs_S) : Int32 := (if a1 < 0 then (-1 : Int32) else (if a1 ≤ (2047 : Int32) then (σ 19 (a1).toNatClampNeg) else (-1 : Int32)))
set_option maxRecDepth 100000 in
set_option maxHeartbeats 4000000 in
theorem my_peek {l : Launch} {N n u : Nat} {a1 : Int32} {σ : xs_S} (hl : l.stackTraces = false) (hn : 29 ≤ n) : xm_m (xk_k N) l ty_peek [.ref 18, .int a1] (n, u, σ, xr_0) (xe_v ei_i n u σ (fy_peek a1 σ)) := by
  refine xm_of hl ok_y_peek (Nat.le_of_ble_eq_true rfl) ?_
  show xw_w (xk_k N) l ty_peek 0 [some (.ref 18), some (.int a1)] [] (n, u, σ, xr_0) (xe_v ei_i n u σ (fy_peek a1 σ))
  unfold fy_peek
  refine xw_iload1 dy_peek_0 ?_
  refine xw_if_lt' dy_peek_1 rfl (fun h1 => ?_) (fun h1 => ?_)
  · refine xw_iconst dy_peek_11 ki_m1 ?_
    refine xw_goto dy_peek_12 rfl ?_
    exact xw_iret dy_peek_21 rfl
  · refine xw_iload1 dy_peek_4 ?_
    refine xw_sipush dy_peek_5 ks_2047 ?_
    refine xw_icmp_le' dy_peek_8 rfl (fun h2 => ?_) (fun h2 => ?_)
    · refine xw_aload0 dy_peek_15 ?_
      refine xw_getR dy_peek_16 fl_y_7 (xl_n hn (by decide)) rfl r_18_0 ?_
      refine xw_iload1 dy_peek_19 ?_
      refine xw_iald dy_peek_20 (xl_n hn (by decide)) rfl (vi_p h1 h2) rfl ?_
      exact xw_iret dy_peek_21 rfl
    · refine xw_iconst dy_peek_11 ki_m1 ?_
      refine xw_goto dy_peek_12 rfl ?_
      exact xw_iret dy_peek_21 rfl
def fy_fill (a1 : Int32) (a2 : Int64) (σ : xs_S) : Int32 × xs_S := (if a1 < 0 then ((0 : Int32), σ) else (if (2040 : Int32) < a1 then ((0 : Int32), σ) else (if (a1 - a1 / (8 : Int32) * (8 : Int32)) = 0 then xl_l ((xu_u σ 19 ((a1 + (0 : Int32))).toNatClampNeg ((((a2 >>> ((((8 : Int32) * (0 : Int32))).toInt64 &&& 63)) &&& (255 : Int64))).toInt32))) (fun s4 => xl_l ((xu_u s4 19 ((a1 + (1 : Int32))).toNatClampNeg ((((a2 >>> ((((8 : Int32) * (1 : Int32))).toInt64 &&& 63)) &&& (255 : Int64))).toInt32))) (fun s5 => xl_l ((xu_u s5 19 ((a1 + (2 : Int32))).toNatClampNeg ((((a2 >>> ((((8 : Int32) * (2 : Int32))).toInt64 &&& 63)) &&& (255 : Int64))).toInt32))) (fun s6 => xl_l ((xu_u s6 19 ((a1 + (3 : Int32))).toNatClampNeg ((((a2 >>> ((((8 : Int32) * (3 : Int32))).toInt64 &&& 63)) &&& (255 : Int64))).toInt32))) (fun s7 => xl_l ((xu_u s7 19 ((a1 + (4 : Int32))).toNatClampNeg ((((a2 >>> ((((8 : Int32) * (4 : Int32))).toInt64 &&& 63)) &&& (255 : Int64))).toInt32))) (fun s8 => xl_l ((xu_u s8 19 ((a1 + (5 : Int32))).toNatClampNeg ((((a2 >>> ((((8 : Int32) * (5 : Int32))).toInt64 &&& 63)) &&& (255 : Int64))).toInt32))) (fun s9 => xl_l ((xu_u s9 19 ((a1 + (6 : Int32))).toNatClampNeg ((((a2 >>> ((((8 : Int32) * (6 : Int32))).toInt64 &&& 63)) &&& (255 : Int64))).toInt32))) (fun s10 => xl_l ((xu_u s10 19 ((a1 + (7 : Int32))).toNatClampNeg ((((a2 >>> ((((8 : Int32) * (7 : Int32))).toInt64 &&& 63)) &&& (255 : Int64))).toInt32))) (fun s11 => ((1 : Int32), s11))))))))) else ((0 : Int32), σ))))
set_option maxRecDepth 100000 in
set_option maxHeartbeats 4000000 in
theorem my_fill {l : Launch} {N n u : Nat} {a1 : Int32} {a2 : Int64} {σ : xs_S} (hl : l.stackTraces = false) (hn : 29 ≤ n) : xm_m (xk_k N) l ty_fill [.ref 18, .int a1, .long a2] (n, u, σ, xr_0) (xe_p ei_i n u (fy_fill a1 a2 σ)) := by
  refine xm_of hl ok_y_fill (Nat.le_of_ble_eq_true rfl) ?_
  show xw_w (xk_k N) l ty_fill 0 [some (.ref 18), some (.int a1), some (.long a2), none, none] [] (n, u, σ, xr_0) (xe_p ei_i n u (fy_fill a1 a2 σ))
  unfold fy_fill
  refine xw_iload1 dy_fill_0 ?_
  refine xw_if_lt' dy_fill_1 rfl (fun h1 => ?_) (fun h1 => ?_)
  · refine xw_iconst dy_fill_18 ki_0 ?_
    exact xw_zret dy_fill_19 rfl (by decide)
  · refine xw_iload1 dy_fill_4 ?_
    refine xw_sipush dy_fill_5 ks_2040 ?_
    refine xw_icmp_gt' dy_fill_8 rfl (fun h2 => ?_) (fun h2 => ?_)
    · refine xw_iconst dy_fill_18 ki_0 ?_
      exact xw_zret dy_fill_19 rfl (by decide)
    · refine xw_iload1 dy_fill_11 ?_
      refine xw_bipush dy_fill_12 kb_8 ?_
      refine xw_irem dy_fill_14 nz_8 ?_
      refine xw_if_eq' dy_fill_15 rfl (fun h3 => ?_) (fun h3 => ?_)
      · refine xw_iconst dy_fill_20 ki_0 ?_
        refine xw_istore4 dy_fill_21 (Nat.le_of_ble_eq_true rfl) rfl ?_
        refine xw_iload4 dy_fill_23 ?_
        refine xw_bipush dy_fill_25 kb_8 ?_
        refine xw_icmp_ge_f dy_fill_27 rfl (by decide) ?_
        refine xw_aload0 dy_fill_30 ?_
        refine xw_getR dy_fill_31 fl_y_7 (xl_n hn (by decide)) rfl r_18_0 ?_
        refine xw_iload1 dy_fill_34 ?_
        refine xw_iload4 dy_fill_35 ?_
        refine xw_iadd dy_fill_37 ?_
        refine xw_lload2 dy_fill_38 ?_
        refine xw_bipush dy_fill_39 kb_8 ?_
        refine xw_iload4 dy_fill_41 ?_
        refine xw_imul dy_fill_43 ?_
        refine xw_lshr dy_fill_44 ?_
        refine xw_ldc2 dy_fill_45 kj_y_202 ?_
        refine xw_land dy_fill_48 ?_
        refine xw_l2i dy_fill_49 ?_
        refine xw_iast dy_fill_50 (by decide) (xl_n hn (by decide)) rfl (vi_f h1 h2 (by decide)) rfl ?_
        refine xw_lw (fun s4 e_s4 => ?_)
        refine xw_iinc4 dy_fill_51 ic_0_1 (Nat.le_of_ble_eq_true rfl) rfl ?_
        refine xw_goto dy_fill_54 rfl ?_
        refine xw_iload4 dy_fill_23 ?_
        refine xw_bipush dy_fill_25 kb_8 ?_
        refine xw_icmp_ge_f dy_fill_27 rfl (by decide) ?_
        refine xw_aload0 dy_fill_30 ?_
        refine xw_getR dy_fill_31 fl_y_7 (xl_n hn (by decide)) rfl r_18_0 ?_
        refine xw_iload1 dy_fill_34 ?_
        refine xw_iload4 dy_fill_35 ?_
        refine xw_iadd dy_fill_37 ?_
        refine xw_lload2 dy_fill_38 ?_
        refine xw_bipush dy_fill_39 kb_8 ?_
        refine xw_iload4 dy_fill_41 ?_
        refine xw_imul dy_fill_43 ?_
        refine xw_lshr dy_fill_44 ?_
        refine xw_ldc2 dy_fill_45 kj_y_202 ?_
        refine xw_land dy_fill_48 ?_
        refine xw_l2i dy_fill_49 ?_
        refine xw_iast dy_fill_50 (by decide) (xl_n hn (by decide)) rfl (vi_f h1 h2 (by decide)) rfl ?_
        refine xw_lw (fun s5 e_s5 => ?_)
        refine xw_iinc4 dy_fill_51 ic_1_1 (Nat.le_of_ble_eq_true rfl) rfl ?_
        refine xw_goto dy_fill_54 rfl ?_
        refine xw_iload4 dy_fill_23 ?_
        refine xw_bipush dy_fill_25 kb_8 ?_
        refine xw_icmp_ge_f dy_fill_27 rfl (by decide) ?_
        refine xw_aload0 dy_fill_30 ?_
        refine xw_getR dy_fill_31 fl_y_7 (xl_n hn (by decide)) rfl r_18_0 ?_
        refine xw_iload1 dy_fill_34 ?_
        refine xw_iload4 dy_fill_35 ?_
        refine xw_iadd dy_fill_37 ?_
        refine xw_lload2 dy_fill_38 ?_
        refine xw_bipush dy_fill_39 kb_8 ?_
        refine xw_iload4 dy_fill_41 ?_
        refine xw_imul dy_fill_43 ?_
        refine xw_lshr dy_fill_44 ?_
        refine xw_ldc2 dy_fill_45 kj_y_202 ?_
        refine xw_land dy_fill_48 ?_
        refine xw_l2i dy_fill_49 ?_
        refine xw_iast dy_fill_50 (by decide) (xl_n hn (by decide)) rfl (vi_f h1 h2 (by decide)) rfl ?_
        refine xw_lw (fun s6 e_s6 => ?_)
        refine xw_iinc4 dy_fill_51 ic_2_1 (Nat.le_of_ble_eq_true rfl) rfl ?_
        refine xw_goto dy_fill_54 rfl ?_
        refine xw_iload4 dy_fill_23 ?_
        refine xw_bipush dy_fill_25 kb_8 ?_
        refine xw_icmp_ge_f dy_fill_27 rfl (by decide) ?_
        refine xw_aload0 dy_fill_30 ?_
        refine xw_getR dy_fill_31 fl_y_7 (xl_n hn (by decide)) rfl r_18_0 ?_
        refine xw_iload1 dy_fill_34 ?_
        refine xw_iload4 dy_fill_35 ?_
        refine xw_iadd dy_fill_37 ?_
        refine xw_lload2 dy_fill_38 ?_
        refine xw_bipush dy_fill_39 kb_8 ?_
        refine xw_iload4 dy_fill_41 ?_
        refine xw_imul dy_fill_43 ?_
        refine xw_lshr dy_fill_44 ?_
        refine xw_ldc2 dy_fill_45 kj_y_202 ?_
        refine xw_land dy_fill_48 ?_
        refine xw_l2i dy_fill_49 ?_
        refine xw_iast dy_fill_50 (by decide) (xl_n hn (by decide)) rfl (vi_f h1 h2 (by decide)) rfl ?_
        refine xw_lw (fun s7 e_s7 => ?_)
        refine xw_iinc4 dy_fill_51 ic_3_1 (Nat.le_of_ble_eq_true rfl) rfl ?_
        refine xw_goto dy_fill_54 rfl ?_
        refine xw_iload4 dy_fill_23 ?_
        refine xw_bipush dy_fill_25 kb_8 ?_
        refine xw_icmp_ge_f dy_fill_27 rfl (by decide) ?_
        refine xw_aload0 dy_fill_30 ?_
        refine xw_getR dy_fill_31 fl_y_7 (xl_n hn (by decide)) rfl r_18_0 ?_
        refine xw_iload1 dy_fill_34 ?_
        refine xw_iload4 dy_fill_35 ?_
        refine xw_iadd dy_fill_37 ?_
        refine xw_lload2 dy_fill_38 ?_
        refine xw_bipush dy_fill_39 kb_8 ?_
        refine xw_iload4 dy_fill_41 ?_
        refine xw_imul dy_fill_43 ?_
        refine xw_lshr dy_fill_44 ?_
        refine xw_ldc2 dy_fill_45 kj_y_202 ?_
        refine xw_land dy_fill_48 ?_
        refine xw_l2i dy_fill_49 ?_
        refine xw_iast dy_fill_50 (by decide) (xl_n hn (by decide)) rfl (vi_f h1 h2 (by decide)) rfl ?_
        refine xw_lw (fun s8 e_s8 => ?_)
        refine xw_iinc4 dy_fill_51 ic_4_1 (Nat.le_of_ble_eq_true rfl) rfl ?_
        refine xw_goto dy_fill_54 rfl ?_
        refine xw_iload4 dy_fill_23 ?_
        refine xw_bipush dy_fill_25 kb_8 ?_
        refine xw_icmp_ge_f dy_fill_27 rfl (by decide) ?_
        refine xw_aload0 dy_fill_30 ?_
        refine xw_getR dy_fill_31 fl_y_7 (xl_n hn (by decide)) rfl r_18_0 ?_
        refine xw_iload1 dy_fill_34 ?_
        refine xw_iload4 dy_fill_35 ?_
        refine xw_iadd dy_fill_37 ?_
        refine xw_lload2 dy_fill_38 ?_
        refine xw_bipush dy_fill_39 kb_8 ?_
        refine xw_iload4 dy_fill_41 ?_
        refine xw_imul dy_fill_43 ?_
        refine xw_lshr dy_fill_44 ?_
        refine xw_ldc2 dy_fill_45 kj_y_202 ?_
        refine xw_land dy_fill_48 ?_
        refine xw_l2i dy_fill_49 ?_
        refine xw_iast dy_fill_50 (by decide) (xl_n hn (by decide)) rfl (vi_f h1 h2 (by decide)) rfl ?_
        refine xw_lw (fun s9 e_s9 => ?_)
        refine xw_iinc4 dy_fill_51 ic_5_1 (Nat.le_of_ble_eq_true rfl) rfl ?_
        refine xw_goto dy_fill_54 rfl ?_
        refine xw_iload4 dy_fill_23 ?_
        refine xw_bipush dy_fill_25 kb_8 ?_
        refine xw_icmp_ge_f dy_fill_27 rfl (by decide) ?_
        refine xw_aload0 dy_fill_30 ?_
        refine xw_getR dy_fill_31 fl_y_7 (xl_n hn (by decide)) rfl r_18_0 ?_
        refine xw_iload1 dy_fill_34 ?_
        refine xw_iload4 dy_fill_35 ?_
        refine xw_iadd dy_fill_37 ?_
        refine xw_lload2 dy_fill_38 ?_
        refine xw_bipush dy_fill_39 kb_8 ?_
        refine xw_iload4 dy_fill_41 ?_
        refine xw_imul dy_fill_43 ?_
        refine xw_lshr dy_fill_44 ?_
        refine xw_ldc2 dy_fill_45 kj_y_202 ?_
        refine xw_land dy_fill_48 ?_
        refine xw_l2i dy_fill_49 ?_
        refine xw_iast dy_fill_50 (by decide) (xl_n hn (by decide)) rfl (vi_f h1 h2 (by decide)) rfl ?_
        refine xw_lw (fun s10 e_s10 => ?_)
        refine xw_iinc4 dy_fill_51 ic_6_1 (Nat.le_of_ble_eq_true rfl) rfl ?_
        refine xw_goto dy_fill_54 rfl ?_
        refine xw_iload4 dy_fill_23 ?_
        refine xw_bipush dy_fill_25 kb_8 ?_
        refine xw_icmp_ge_f dy_fill_27 rfl (by decide) ?_
        refine xw_aload0 dy_fill_30 ?_
        refine xw_getR dy_fill_31 fl_y_7 (xl_n hn (by decide)) rfl r_18_0 ?_
        refine xw_iload1 dy_fill_34 ?_
        refine xw_iload4 dy_fill_35 ?_
        refine xw_iadd dy_fill_37 ?_
        refine xw_lload2 dy_fill_38 ?_
        refine xw_bipush dy_fill_39 kb_8 ?_
        refine xw_iload4 dy_fill_41 ?_
        refine xw_imul dy_fill_43 ?_
        refine xw_lshr dy_fill_44 ?_
        refine xw_ldc2 dy_fill_45 kj_y_202 ?_
        refine xw_land dy_fill_48 ?_
        refine xw_l2i dy_fill_49 ?_
        refine xw_iast dy_fill_50 (by decide) (xl_n hn (by decide)) rfl (vi_f h1 h2 (by decide)) rfl ?_
        refine xw_lw (fun s11 e_s11 => ?_)
        refine xw_iinc4 dy_fill_51 ic_7_1 (Nat.le_of_ble_eq_true rfl) rfl ?_
        refine xw_goto dy_fill_54 rfl ?_
        refine xw_iload4 dy_fill_23 ?_
        refine xw_bipush dy_fill_25 kb_8 ?_
        refine xw_icmp_ge_t dy_fill_27 rfl (by decide) ?_
        refine xw_iconst dy_fill_57 ki_1 ?_
        exact xw_zret dy_fill_58 rfl (by decide)
      · refine xw_iconst dy_fill_18 ki_0 ?_
        exact xw_zret dy_fill_19 rfl (by decide)
theorem jy_fill {a1 : Int32} {a2 : Int64} {σ : xs_S} (hJ : yx_J σ) : yx_J (fy_fill a1 a2 σ).2 := by
  unfold fy_fill
  refine xj_f (fun h1 => ?_) (fun h1 => ?_)
  · exact hJ
  · refine xj_f (fun h2 => ?_) (fun h2 => ?_)
    · exact hJ
    · refine xj_f (fun h3 => ?_) (fun h3 => ?_)
      · refine xj_l (fun s4 e_s4 => ?_)
        have hJ_s4 : yx_J s4 := by rw [e_s4]; exact (yx_c hJ (by decide))
        refine xj_l (fun s5 e_s5 => ?_)
        have hJ_s5 : yx_J s5 := by rw [e_s5]; exact (yx_c hJ_s4 (by decide))
        refine xj_l (fun s6 e_s6 => ?_)
        have hJ_s6 : yx_J s6 := by rw [e_s6]; exact (yx_c hJ_s5 (by decide))
        refine xj_l (fun s7 e_s7 => ?_)
        have hJ_s7 : yx_J s7 := by rw [e_s7]; exact (yx_c hJ_s6 (by decide))
        refine xj_l (fun s8 e_s8 => ?_)
        have hJ_s8 : yx_J s8 := by rw [e_s8]; exact (yx_c hJ_s7 (by decide))
        refine xj_l (fun s9 e_s9 => ?_)
        have hJ_s9 : yx_J s9 := by rw [e_s9]; exact (yx_c hJ_s8 (by decide))
        refine xj_l (fun s10 e_s10 => ?_)
        have hJ_s10 : yx_J s10 := by rw [e_s10]; exact (yx_c hJ_s9 (by decide))
        refine xj_l (fun s11 e_s11 => ?_)
        have hJ_s11 : yx_J s11 := by rw [e_s11]; exact (yx_c hJ_s10 (by decide))
        exact hJ_s11
      · exact hJ
