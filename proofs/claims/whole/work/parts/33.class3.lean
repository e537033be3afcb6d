def fr_switchTask (a1 : Int32) (σ : xs_S) : xp_P Unit := xl_l ((if (if (σ 13 3) = (6 : Int32) then (1 : Int32) else (0 : Int32)) = (if a1 = (2 : Int32) then (1 : Int32) else (0 : Int32)) then (1 : Int32) else (0 : Int32))) (fun v1 => xp_b (fx_refuse (if v1 = 0 then (1 : Int32) else (0 : Int32)) (13 : Int32) (fr_codeOf (σ 13 0) σ) σ) (fun b2 s3 => xp_b (fm_wordAt (((s3 13 1) + (14 : Int32)) + ((2 : Int32) * (0 : Int32))) (0 : Int32) s3) (fun b4 s5 => xl_l ((xu_u s5 16 0 b4)) (fun s6 => xp_b (fm_wordAt (((s6 13 1) + (14 : Int32)) + ((2 : Int32) * (1 : Int32))) (0 : Int32) s6) (fun b7 s8 => xl_l ((xu_u s8 16 1 b7)) (fun s9 => xp_b (fm_wordAt (((s9 13 1) + (14 : Int32)) + ((2 : Int32) * (2 : Int32))) (0 : Int32) s9) (fun b10 s11 => xl_l ((xu_u s11 16 2 b10)) (fun s12 => xp_b (fm_wordAt (((s12 13 1) + (14 : Int32)) + ((2 : Int32) * (3 : Int32))) (0 : Int32) s12) (fun b13 s14 => xl_l ((xu_u s14 16 3 b13)) (fun s15 => xp_b (fm_wordAt (((s15 13 1) + (14 : Int32)) + ((2 : Int32) * (4 : Int32))) (0 : Int32) s15) (fun b16 s17 => xl_l ((xu_u s17 16 4 b16)) (fun s18 => xp_b (fm_wordAt (((s18 13 1) + (14 : Int32)) + ((2 : Int32) * (5 : Int32))) (0 : Int32) s18) (fun b19 s20 => xl_l ((xu_u s20 16 5 b19)) (fun s21 => xp_b (fm_wordAt (((s21 13 1) + (14 : Int32)) + ((2 : Int32) * (6 : Int32))) (0 : Int32) s21) (fun b22 s23 => xl_l ((xu_u s23 16 6 b22)) (fun s24 => xp_b (fm_wordAt (((s24 13 1) + (14 : Int32)) + ((2 : Int32) * (7 : Int32))) (0 : Int32) s24) (fun b25 s26 => xl_l ((xu_u s26 16 7 b25)) (fun s27 => xp_b (fr_saveState a1 s27) (fun b28 s29 => xp_b (fr_markTasks a1 s29) (fun b30 s31 => xl_l ((xu_u s31 3 7 (fr_codeOf (s31 13 0) s31))) (fun s32 => xl_l ((xu_u s32 3 8 (s32 13 1))) (fun s33 => xl_l ((xu_u s33 3 4 (s33 16 0))) (fun s34 => xl_l ((xu_u s34 3 5 (((s34 16 1) &&& (3 : Int32)) ||| (if a1 = (1 : Int32) then (2 : Int32) else (0 : Int32))))) (fun s35 => xl_l ((xu_u s35 3 3 (s35 16 2))) (fun s36 => xl_l ((xu_u s36 3 6 ((s36 16 6) &&& (3 : Int32)))) (fun s37 => xl_l ((xu_u s37 3 9 ((s37 16 7) &&& (31 : Int32)))) (fun s38 => xp_b (fr_takeSegment (0 : Int32) (s38 16 3) s38) (fun b39 s40 => xp_b (fr_takeSegment (1 : Int32) (s40 16 4) s40) (fun b41 s42 => xp_b (fr_takeSegment (2 : Int32) (s42 16 5) s42) (fun b43 s44 => (some (), s44)))))))))))))))))))))))))))))))
set_option maxRecDepth 100000 in
set_option maxHeartbeats 4000000 in
theorem mr_switchTask {l : Launch} {N n u : Nat} {a1 : Int32} {σ : xs_S} (hl : l.stackTraces = false) (hn : 29 ≤ n) (hJ : jx_J σ) : xm_m (xk_k N) l tr_switchTask [.ref 1, .int a1] (n, u, σ, xr_0) (xe_t eu_u n u (fr_switchTask a1 σ)) := by
  refine xm_of hl ok_r_switchTask (Nat.le_of_ble_eq_true rfl) ?_
  show xw_w (xk_k N) l tr_switchTask 0 [some (.ref 1), some (.int a1), none, none] [] (n, u, σ, xr_0) (xe_t eu_u n u (fr_switchTask a1 σ))
  unfold fr_switchTask
  refine xw_aload0 dr_switchTask_0 ?_
  refine xw_getR dr_switchTask_1 fl_r_38 (xl_n hn (by decide)) rfl r_1_4 ?_
  refine xw_getI dr_switchTask_4 fl_r_179 (by decide) (xl_n hn (by decide)) rfl ?_
  refine xw_bipush dr_switchTask_7 kb_6 ?_
  refine xw_icmp_ne_mi (J := 17) (a := (1 : Int32)) (b := (0 : Int32)) dr_switchTask_9 rfl (fun _ E' k' => ?_) (fun _ E' k' => ?_) ?_
  · refine xw_iconst dr_switchTask_16 ki_0 ?_
    exact k'
  · refine xw_iconst dr_switchTask_12 ki_1 ?_
    refine xw_goto dr_switchTask_13 rfl ?_
    exact k'
  refine xw_iload1 dr_switchTask_17 ?_
  refine xw_iconst dr_switchTask_18 ki_2 ?_
  refine xw_icmp_ne_mi (J := 27) (a := (1 : Int32)) (b := (0 : Int32)) dr_switchTask_19 rfl (fun _ E' k' => ?_) (fun _ E' k' => ?_) ?_
  · refine xw_iconst dr_switchTask_26 ki_0 ?_
    exact k'
  · refine xw_iconst dr_switchTask_22 ki_1 ?_
    refine xw_goto dr_switchTask_23 rfl ?_
    exact k'
  refine xw_icmp_ne_mi (J := 35) (a := (1 : Int32)) (b := (0 : Int32)) dr_switchTask_27 rfl (fun _ E' k' => ?_) (fun _ E' k' => ?_) ?_
  · refine xw_iconst dr_switchTask_34 ki_0 ?_
    exact k'
  · refine xw_iconst dr_switchTask_30 ki_1 ?_
    refine xw_goto dr_switchTask_31 rfl ?_
    exact k'
  refine xw_li (fun v1 e_v1 => ?_)
  refine xw_istore2 dr_switchTask_35 (Nat.le_of_ble_eq_true rfl) rfl ?_
  refine xw_aload0 dr_switchTask_36 ?_
  refine xw_getR dr_switchTask_37 fl_r_10 (xl_n hn (by decide)) rfl r_1_0 ?_
  refine xw_iload2 dr_switchTask_40 ?_
  refine xw_if_ne_mi (J := 49) (a := (1 : Int32)) (b := (0 : Int32)) dr_switchTask_41 rfl (fun _ E' k' => ?_) (fun _ E' k' => ?_) ?_
  · refine xw_iconst dr_switchTask_48 ki_0 ?_
    exact k'
  · refine xw_iconst dr_switchTask_44 ki_1 ?_
    refine xw_goto dr_switchTask_45 rfl ?_
    exact k'
  refine xw_bipush dr_switchTask_49 kb_13 ?_
  refine xw_aload0 dr_switchTask_51 ?_
  refine xw_getR dr_switchTask_52 fl_r_38 (xl_n hn (by decide)) rfl r_1_4 ?_
  refine xw_getI dr_switchTask_55 fl_r_142 (by decide) (xl_n hn (by decide)) rfl ?_
  refine xw_cVi dr_switchTask_58 (lk_r_switchTask_58) ok_r_codeOf (mr_codeOf hl hn) ⟨Nat.le_of_ble_eq_true rfl, Nat.le_of_ble_eq_true rfl⟩ ?_
  refine xw_cTu dr_switchTask_61 (lk_r_switchTask_61 (xl_n hn (by decide)) rfl) ok_x_refuse (mx_refuse hl hn) ⟨Nat.le_of_ble_eq_true rfl, Nat.le_of_ble_eq_true rfl⟩ rfl (fun b2 s3 h_s3 => ?_)
  have hJ_s3 : jx_J s3 := xj_o (jx_refuse hJ) h_s3
  refine xw_iconst dr_switchTask_64 ki_0 ?_
  refine xw_istore3 dr_switchTask_65 (Nat.le_of_ble_eq_true rfl) rfl ?_
  refine xw_iload3 dr_switchTask_66 ?_
  refine xw_bipush dr_switchTask_67 kb_8 ?_
  refine xw_icmp_ge_f dr_switchTask_69 rfl (by decide) ?_
  refine xw_aload0 dr_switchTask_72 ?_
  refine xw_getR dr_switchTask_73 fl_r_48 (xl_n hn (by decide)) rfl r_1_7 ?_
  refine xw_iload3 dr_switchTask_76 ?_
  refine xw_aload0 dr_switchTask_77 ?_
  refine xw_getR dr_switchTask_78 fl_r_31 (xl_n hn (by decide)) rfl r_1_3 ?_
  refine xw_aload0 dr_switchTask_81 ?_
  refine xw_getR dr_switchTask_82 fl_r_38 (xl_n hn (by decide)) rfl r_1_4 ?_
  refine xw_getI dr_switchTask_85 fl_r_173 (by decide) (xl_n hn (by decide)) rfl ?_
  refine xw_bipush dr_switchTask_88 kb_14 ?_
  refine xw_iadd dr_switchTask_90 ?_
  refine xw_iconst dr_switchTask_91 ki_2 ?_
  refine xw_iload3 dr_switchTask_92 ?_
  refine xw_imul dr_switchTask_93 ?_
  refine xw_iadd dr_switchTask_94 ?_
  refine xw_iconst dr_switchTask_95 ki_0 ?_
  refine xw_cTi dr_switchTask_96 (lk_r_switchTask_96 (xl_n hn (by decide)) rfl) ok_m_wordAt (mm_wordAt hl hn hJ_s3) ⟨Nat.le_of_ble_eq_true rfl, Nat.le_of_ble_eq_true rfl⟩ rfl (fun b4 s5 h_s5 => ?_)
  have hJ_s5 : jx_J s5 := xj_o (jm_wordAt hJ_s3) h_s5
  refine xw_iast dr_switchTask_99 (by decide) (xl_n hn (by decide)) rfl vc_0_8 cn_0 ?_
  refine xw_lw (fun s6 e_s6 => ?_)
  have hJ_s6 : jx_J s6 := by rw [e_s6]; exact (jx_u hJ_s5 (by decide))
  refine xw_iinc3 dr_switchTask_100 ic_0_1 (Nat.le_of_ble_eq_true rfl) rfl ?_
  refine xw_goto dr_switchTask_103 rfl ?_
  refine xw_iload3 dr_switchTask_66 ?_
  refine xw_bipush dr_switchTask_67 kb_8 ?_
  refine xw_icmp_ge_f dr_switchTask_69 rfl (by decide) ?_
  refine xw_aload0 dr_switchTask_72 ?_
  refine xw_getR dr_switchTask_73 fl_r_48 (xl_n hn (by decide)) rfl r_1_7 ?_
  refine xw_iload3 dr_switchTask_76 ?_
  refine xw_aload0 dr_switchTask_77 ?_
  refine xw_getR dr_switchTask_78 fl_r_31 (xl_n hn (by decide)) rfl r_1_3 ?_
  refine xw_aload0 dr_switchTask_81 ?_
  refine xw_getR dr_switchTask_82 fl_r_38 (xl_n hn (by decide)) rfl r_1_4 ?_
  refine xw_getI dr_switchTask_85 fl_r_173 (by decide) (xl_n hn (by decide)) rfl ?_
  refine xw_bipush dr_switchTask_88 kb_14 ?_
  refine xw_iadd dr_switchTask_90 ?_
  refine xw_iconst dr_switchTask_91 ki_2 ?_
  refine xw_iload3 dr_switchTask_92 ?_
  refine xw_imul dr_switchTask_93 ?_
  refine xw_iadd dr_switchTask_94 ?_
  refine xw_iconst dr_switchTask_95 ki_0 ?_
  refine xw_cTi dr_switchTask_96 (lk_r_switchTask_96 (xl_n hn (by decide)) rfl) ok_m_wordAt (mm_wordAt hl hn hJ_s6) ⟨Nat.le_of_ble_eq_true rfl, Nat.le_of_ble_eq_true rfl⟩ rfl (fun b7 s8 h_s8 => ?_)
  have hJ_s8 : jx_J s8 := xj_o (jm_wordAt hJ_s6) h_s8
  refine xw_iast dr_switchTask_99 (by decide) (xl_n hn (by decide)) rfl vc_1_8 cn_1 ?_
  refine xw_lw (fun s9 e_s9 => ?_)
  have hJ_s9 : jx_J s9 := by rw [e_s9]; exact (jx_u hJ_s8 (by decide))
  refine xw_iinc3 dr_switchTask_100 ic_1_1 (Nat.le_of_ble_eq_true rfl) rfl ?_
  refine xw_goto dr_switchTask_103 rfl ?_
  refine xw_iload3 dr_switchTask_66 ?_
  refine xw_bipush dr_switchTask_67 kb_8 ?_
  refine xw_icmp_ge_f dr_switchTask_69 rfl (by decide) ?_
  refine xw_aload0 dr_switchTask_72 ?_
  refine xw_getR dr_switchTask_73 fl_r_48 (xl_n hn (by decide)) rfl r_1_7 ?_
  refine xw_iload3 dr_switchTask_76 ?_
  refine xw_aload0 dr_switchTask_77 ?_
  refine xw_getR dr_switchTask_78 fl_r_31 (xl_n hn (by decide)) rfl r_1_3 ?_
  refine xw_aload0 dr_switchTask_81 ?_
  refine xw_getR dr_switchTask_82 fl_r_38 (xl_n hn (by decide)) rfl r_1_4 ?_
  refine xw_getI dr_switchTask_85 fl_r_173 (by decide) (xl_n hn (by decide)) rfl ?_
  refine xw_bipush dr_switchTask_88 kb_14 ?_
  refine xw_iadd dr_switchTask_90 ?_
  refine xw_iconst dr_switchTask_91 ki_2 ?_
  refine xw_iload3 dr_switchTask_92 ?_
  refine xw_imul dr_switchTask_93 ?_
  refine xw_iadd dr_switchTask_94 ?_
  refine xw_iconst dr_switchTask_95 ki_0 ?_
  refine xw_cTi dr_switchTask_96 (lk_r_switchTask_96 (xl_n hn (by decide)) rfl) ok_m_wordAt (mm_wordAt hl hn hJ_s9) ⟨Nat.le_of_ble_eq_true rfl, Nat.le_of_ble_eq_true rfl⟩ rfl (fun b10 s11 h_s11 => ?_)
  have hJ_s11 : jx_J s11 := xj_o (jm_wordAt hJ_s9) h_s11
  refine xw_iast dr_switchTask_99 (by decide) (xl_n hn (by decide)) rfl vc_2_8 cn_2 ?_
  refine xw_lw (fun s12 e_s12 => ?_)
  have hJ_s12 : jx_J s12 := by rw [e_s12]; exact (jx_u hJ_s11 (by decide))
  refine xw_iinc3 dr_switchTask_100 ic_2_1 (Nat.le_of_ble_eq_true rfl) rfl ?_
  refine xw_goto dr_switchTask_103 rfl ?_
  refine xw_iload3 dr_switchTask_66 ?_
  refine xw_bipush dr_switchTask_67 kb_8 ?_
  refine xw_icmp_ge_f dr_switchTask_69 rfl (by decide) ?_
  refine xw_aload0 dr_switchTask_72 ?_
  refine xw_getR dr_switchTask_73 fl_r_48 (xl_n hn (by decide)) rfl r_1_7 ?_
  refine xw_iload3 dr_switchTask_76 ?_
  refine xw_aload0 dr_switchTask_77 ?_
  refine xw_getR dr_switchTask_78 fl_r_31 (xl_n hn (by decide)) rfl r_1_3 ?_
  refine xw_aload0 dr_switchTask_81 ?_
  refine xw_getR dr_switchTask_82 fl_r_38 (xl_n hn (by decide)) rfl r_1_4 ?_
  refine xw_getI dr_switchTask_85 fl_r_173 (by decide) (xl_n hn (by decide)) rfl ?_
  refine xw_bipush dr_switchTask_88 kb_14 ?_
  refine xw_iadd dr_switchTask_90 ?_
  refine xw_iconst dr_switchTask_91 ki_2 ?_
  refine xw_iload3 dr_switchTask_92 ?_
  refine xw_imul dr_switchTask_93 ?_
  refine xw_iadd dr_switchTask_94 ?_
  refine xw_iconst dr_switchTask_95 ki_0 ?_
  refine xw_cTi dr_switchTask_96 (lk_r_switchTask_96 (xl_n hn (by decide)) rfl) ok_m_wordAt (mm_wordAt hl hn hJ_s12) ⟨Nat.le_of_ble_eq_true rfl, Nat.le_of_ble_eq_true rfl⟩ rfl (fun b13 s14 h_s14 => ?_)
  have hJ_s14 : jx_J s14 := xj_o (jm_wordAt hJ_s12) h_s14
  refine xw_iast dr_switchTask_99 (by decide) (xl_n hn (by decide)) rfl vc_3_8 cn_3 ?_
  refine xw_lw (fun s15 e_s15 => ?_)
  have hJ_s15 : jx_J s15 := by rw [e_s15]; exact (jx_u hJ_s14 (by decide))
  refine xw_iinc3 dr_switchTask_100 ic_3_1 (Nat.le_of_ble_eq_true rfl) rfl ?_
  refine xw_goto dr_switchTask_103 rfl ?_
  refine xw_iload3 dr_switchTask_66 ?_
  refine xw_bipush dr_switchTask_67 kb_8 ?_
  refine xw_icmp_ge_f dr_switchTask_69 rfl (by decide) ?_
  refine xw_aload0 dr_switchTask_72 ?_
  refine xw_getR dr_switchTask_73 fl_r_48 (xl_n hn (by decide)) rfl r_1_7 ?_
  refine xw_iload3 dr_switchTask_76 ?_
  refine xw_aload0 dr_switchTask_77 ?_
  refine xw_getR dr_switchTask_78 fl_r_31 (xl_n hn (by decide)) rfl r_1_3 ?_
  refine xw_aload0 dr_switchTask_81 ?_
  refine xw_getR dr_switchTask_82 fl_r_38 (xl_n hn (by decide)) rfl r_1_4 ?_
  refine xw_getI dr_switchTask_85 fl_r_173 (by decide) (xl_n hn (by decide)) rfl ?_
  refine xw_bipush dr_switchTask_88 kb_14 ?_
  refine xw_iadd dr_switchTask_90 ?_
  refine xw_iconst dr_switchTask_91 ki_2 ?_
  refine xw_iload3 dr_switchTask_92 ?_
  refine xw_imul dr_switchTask_93 ?_
  refine xw_iadd dr_switchTask_94 ?_
  refine xw_iconst dr_switchTask_95 ki_0 ?_
  refine xw_cTi dr_switchTask_96 (lk_r_switchTask_96 (xl_n hn (by decide)) rfl) ok_m_wordAt (mm_wordAt hl hn hJ_s15) ⟨Nat.le_of_ble_eq_true rfl, Nat.le_of_ble_eq_true rfl⟩ rfl (fun b16 s17 h_s17 => ?_)
  have hJ_s17 : jx_J s17 := xj_o (jm_wordAt hJ_s15) h_s17
  refine xw_iast dr_switchTask_99 (by decide) (xl_n hn (by decide)) rfl vc_4_8 cn_4 ?_
  refine xw_lw (fun s18 e_s18 => ?_)
  have hJ_s18 : jx_J s18 := by rw [e_s18]; exact (jx_u hJ_s17 (by decide))
  refine xw_iinc3 dr_switchTask_100 ic_4_1 (Nat.le_of_ble_eq_true rfl) rfl ?_
  refine xw_goto dr_switchTask_103 rfl ?_
  refine xw_iload3 dr_switchTask_66 ?_
  refine xw_bipush dr_switchTask_67 kb_8 ?_
  refine xw_icmp_ge_f dr_switchTask_69 rfl (by decide) ?_
  refine xw_aload0 dr_switchTask_72 ?_
  refine xw_getR dr_switchTask_73 fl_r_48 (xl_n hn (by decide)) rfl r_1_7 ?_
  refine xw_iload3 dr_switchTask_76 ?_
  refine xw_aload0 dr_switchTask_77 ?_
  refine xw_getR dr_switchTask_78 fl_r_31 (xl_n hn (by decide)) rfl r_1_3 ?_
  refine xw_aload0 dr_switchTask_81 ?_
  refine xw_getR dr_switchTask_82 fl_r_38 (xl_n hn (by decide)) rfl r_1_4 ?_
  refine xw_getI dr_switchTask_85 fl_r_173 (by decide) (xl_n hn (by decide)) rfl ?_
  refine xw_bipush dr_switchTask_88 kb_14 ?_
  refine xw_iadd dr_switchTask_90 ?_
  refine xw_iconst dr_switchTask_91 ki_2 ?_
  refine xw_iload3 dr_switchTask_92 ?_
  refine xw_imul dr_switchTask_93 ?_
  refine xw_iadd dr_switchTask_94 ?_
  refine xw_iconst dr_switchTask_95 ki_0 ?_
  refine xw_cTi dr_switchTask_96 (lk_r_switchTask_96 (xl_n hn (by decide)) rfl) ok_m_wordAt (mm_wordAt hl hn hJ_s18) ⟨Nat.le_of_ble_eq_true rfl, Nat.le_of_ble_eq_true rfl⟩ rfl (fun b19 s20 h_s20 => ?_)
  have hJ_s20 : jx_J s20 := xj_o (jm_wordAt hJ_s18) h_s20
  refine xw_iast dr_switchTask_99 (by decide) (xl_n hn (by decide)) rfl vc_5_8 cn_5 ?_
  refine xw_lw (fun s21 e_s21 => ?_)
  have hJ_s21 : jx_J s21 := by rw [e_s21]; exact (jx_u hJ_s20 (by decide))
  refine xw_iinc3 dr_switchTask_100 ic_5_1 (Nat.le_of_ble_eq_true rfl) rfl ?_
  refine xw_goto dr_switchTask_103 rfl ?_
  refine xw_iload3 dr_switchTask_66 ?_
  refine xw_bipush dr_switchTask_67 kb_8 ?_
  refine xw_icmp_ge_f dr_switchTask_69 rfl (by decide) ?_
  refine xw_aload0 dr_switchTask_72 ?_
  refine xw_getR dr_switchTask_73 fl_r_48 (xl_n hn (by decide)) rfl r_1_7 ?_
  refine xw_iload3 dr_switchTask_76 ?_
  refine xw_aload0 dr_switchTask_77 ?_
  refine xw_getR dr_switchTask_78 fl_r_31 (xl_n hn (by decide)) rfl r_1_3 ?_
  refine xw_aload0 dr_switchTask_81 ?_
  refine xw_getR dr_switchTask_82 fl_r_38 (xl_n hn (by decide)) rfl r_1_4 ?_
  refine xw_getI dr_switchTask_85 fl_r_173 (by decide) (xl_n hn (by decide)) rfl ?_
  refine xw_bipush dr_switchTask_88 kb_14 ?_
  refine xw_iadd dr_switchTask_90 ?_
  refine xw_iconst dr_switchTask_91 ki_2 ?_
  refine xw_iload3 dr_switchTask_92 ?_
  refine xw_imul dr_switchTask_93 ?_
  refine xw_iadd dr_switchTask_94 ?_
  refine xw_iconst dr_switchTask_95 ki_0 ?_
  refine xw_cTi dr_switchTask_96 (lk_r_switchTask_96 (xl_n hn (by decide)) rfl) ok_m_wordAt (mm_wordAt hl hn hJ_s21) ⟨Nat.le_of_ble_eq_true rfl, Nat.le_of_ble_eq_true rfl⟩ rfl (fun b22 s23 h_s23 => ?_)
  have hJ_s23 : jx_J s23 := xj_o (jm_wordAt hJ_s21) h_s23
  refine xw_iast dr_switchTask_99 (by decide) (xl_n hn (by decide)) rfl vc_6_8 cn_6 ?_
  refine xw_lw (fun s24 e_s24 => ?_)
  have hJ_s24 : jx_J s24 := by rw [e_s24]; exact (jx_u hJ_s23 (by decide))
  refine xw_iinc3 dr_switchTask_100 ic_6_1 (Nat.le_of_ble_eq_true rfl) rfl ?_
  refine xw_goto dr_switchTask_103 rfl ?_
  refine xw_iload3 dr_switchTask_66 ?_
  refine xw_bipush dr_switchTask_67 kb_8 ?_
  refine xw_icmp_ge_f dr_switchTask_69 rfl (by decide) ?_
  refine xw_aload0 dr_switchTask_72 ?_
  refine xw_getR dr_switchTask_73 fl_r_48 (xl_n hn (by decide)) rfl r_1_7 ?_
  refine xw_iload3 dr_switchTask_76 ?_
  refine xw_aload0 dr_switchTask_77 ?_
  refine xw_getR dr_switchTask_78 fl_r_31 (xl_n hn (by decide)) rfl r_1_3 ?_
  refine xw_aload0 dr_switchTask_81 ?_
  refine xw_getR dr_switchTask_82 fl_r_38 (xl_n hn (by decide)) rfl r_1_4 ?_
  refine xw_getI dr_switchTask_85 fl_r_173 (by decide) (xl_n hn (by decide)) rfl ?_
  refine xw_bipush dr_switchTask_88 kb_14 ?_
  refine xw_iadd dr_switchTask_90 ?_
  refine xw_iconst dr_switchTask_91 ki_2 ?_
  refine xw_iload3 dr_switchTask_92 ?_
  refine xw_imul dr_switchTask_93 ?_
  refine xw_iadd dr_switchTask_94 ?_
  refine xw_iconst dr_switchTask_95 ki_0 ?_
  refine xw_cTi dr_switchTask_96 (lk_r_switchTask_96 (xl_n hn (by decide)) rfl) ok_m_wordAt (mm_wordAt hl hn hJ_s24) ⟨Nat.le_of_ble_eq_true rfl, Nat.le_of_ble_eq_true rfl⟩ rfl (fun b25 s26 h_s26 => ?_)
  have hJ_s26 : jx_J s26 := xj_o (jm_wordAt hJ_s24) h_s26
  refine xw_iast dr_switchTask_99 (by decide) (xl_n hn (by decide)) rfl vc_7_8 cn_7 ?_
  refine xw_lw (fun s27 e_s27 => ?_)
  have hJ_s27 : jx_J s27 := by rw [e_s27]; exact (jx_u hJ_s26 (by decide))
  refine xw_iinc3 dr_switchTask_100 ic_7_1 (Nat.le_of_ble_eq_true rfl) rfl ?_
  refine xw_goto dr_switchTask_103 rfl ?_
  refine xw_iload3 dr_switchTask_66 ?_
  refine xw_bipush dr_switchTask_67 kb_8 ?_
  refine xw_icmp_ge_t dr_switchTask_69 rfl (by decide) ?_
  refine xw_aload0 dr_switchTask_106 ?_
  refine xw_iload1 dr_switchTask_107 ?_
  refine xw_cTu dr_switchTask_108 (lk_r_switchTask_108 (xl_n hn (by decide)) rfl) ok_r_saveState (mr_saveState hl hn hJ_s27) ⟨Nat.le_of_ble_eq_true rfl, Nat.le_of_ble_eq_true rfl⟩ rfl (fun b28 s29 h_s29 => ?_)
  have hJ_s29 : jx_J s29 := xj_o (jr_saveState hJ_s27) h_s29
  refine xw_aload0 dr_switchTask_111 ?_
  refine xw_iload1 dr_switchTask_112 ?_
  refine xw_cTu dr_switchTask_113 (lk_r_switchTask_113 (xl_n hn (by decide)) rfl) ok_r_markTasks (mr_markTasks hl hn hJ_s29) ⟨Nat.le_of_ble_eq_true rfl, Nat.le_of_ble_eq_true rfl⟩ rfl (fun b30 s31 h_s31 => ?_)
  have hJ_s31 : jx_J s31 := xj_o (jr_markTasks hJ_s29) h_s31
  refine xw_aload0 dr_switchTask_116 ?_
  refine xw_getR dr_switchTask_117 fl_r_19 (xl_n hn (by decide)) rfl r_1_1 ?_
  refine xw_aload0 dr_switchTask_120 ?_
  refine xw_getR dr_switchTask_121 fl_r_38 (xl_n hn (by decide)) rfl r_1_4 ?_
  refine xw_getI dr_switchTask_124 fl_r_142 (by decide) (xl_n hn (by decide)) rfl ?_
  refine xw_cVi dr_switchTask_127 (lk_r_switchTask_127) ok_r_codeOf (mr_codeOf hl hn) ⟨Nat.le_of_ble_eq_true rfl, Nat.le_of_ble_eq_true rfl⟩ ?_
  refine xw_putI dr_switchTask_130 fl_r_160 nf_3_7 (by decide) (xl_n hn (by decide)) rfl ?_
  refine xw_lw (fun s32 e_s32 => ?_)
  have hJ_s32 : jx_J s32 := by rw [e_s32]; exact (jx_u hJ_s31 (by decide))
  refine xw_aload0 dr_switchTask_133 ?_
  refine xw_getR dr_switchTask_134 fl_r_19 (xl_n hn (by decide)) rfl r_1_1 ?_
  refine xw_aload0 dr_switchTask_137 ?_
  refine xw_getR dr_switchTask_138 fl_r_38 (xl_n hn (by decide)) rfl r_1_4 ?_
  refine xw_getI dr_switchTask_141 fl_r_173 (by decide) (xl_n hn (by decide)) rfl ?_
  refine xw_putI dr_switchTask_144 fl_r_163 nf_3_8 (by decide) (xl_n hn (by decide)) rfl ?_
  refine xw_lw (fun s33 e_s33 => ?_)
  have hJ_s33 : jx_J s33 := by rw [e_s33]; exact (jx_u hJ_s32 (by decide))
  refine xw_aload0 dr_switchTask_147 ?_
  refine xw_getR dr_switchTask_148 fl_r_19 (xl_n hn (by decide)) rfl r_1_1 ?_
  refine xw_aload0 dr_switchTask_151 ?_
  refine xw_getR dr_switchTask_152 fl_r_48 (xl_n hn (by decide)) rfl r_1_7 ?_
  refine xw_iconst dr_switchTask_155 ki_0 ?_
  refine xw_iald dr_switchTask_156 (xl_n hn (by decide)) rfl vc_0_8 cn_0 ?_
  refine xw_putI dr_switchTask_157 fl_r_154 nf_3_4 (by decide) (xl_n hn (by decide)) rfl ?_
  refine xw_lw (fun s34 e_s34 => ?_)
  have hJ_s34 : jx_J s34 := by rw [e_s34]; exact (jx_u hJ_s33 (by decide))
  refine xw_aload0 dr_switchTask_160 ?_
  refine xw_getR dr_switchTask_161 fl_r_19 (xl_n hn (by decide)) rfl r_1_1 ?_
  refine xw_aload0 dr_switchTask_164 ?_
  refine xw_getR dr_switchTask_165 fl_r_48 (xl_n hn (by decide)) rfl r_1_7 ?_
  refine xw_iconst dr_switchTask_168 ki_1 ?_
  refine xw_iald dr_switchTask_169 (xl_n hn (by decide)) rfl vc_1_8 cn_1 ?_
  refine xw_iconst dr_switchTask_170 ki_3 ?_
  refine xw_iand dr_switchTask_171 ?_
  refine xw_iload1 dr_switchTask_172 ?_
  refine xw_iconst dr_switchTask_173 ki_1 ?_
  refine xw_icmp_ne_mi (J := 182) (a := (2 : Int32)) (b := (0 : Int32)) dr_switchTask_174 rfl (fun _ E' k' => ?_) (fun _ E' k' => ?_) ?_
  · refine xw_iconst dr_switchTask_181 ki_0 ?_
    exact k'
  · refine xw_iconst dr_switchTask_177 ki_2 ?_
    refine xw_goto dr_switchTask_178 rfl ?_
    exact k'
  refine xw_ior dr_switchTask_182 ?_
  refine xw_putI dr_switchTask_183 fl_r_133 nf_3_5 (by decide) (xl_n hn (by decide)) rfl ?_
  refine xw_lw (fun s35 e_s35 => ?_)
  have hJ_s35 : jx_J s35 := by rw [e_s35]; exact (jx_u hJ_s34 (by decide))
  refine xw_aload0 dr_switchTask_186 ?_
  refine xw_getR dr_switchTask_187 fl_r_19 (xl_n hn (by decide)) rfl r_1_1 ?_
  refine xw_aload0 dr_switchTask_190 ?_
  refine xw_getR dr_switchTask_191 fl_r_48 (xl_n hn (by decide)) rfl r_1_7 ?_
  refine xw_iconst dr_switchTask_194 ki_2 ?_
  refine xw_iald dr_switchTask_195 (xl_n hn (by decide)) rfl vc_2_8 cn_2 ?_
  refine xw_putI dr_switchTask_196 fl_r_151 nf_3_3 (by decide) (xl_n hn (by decide)) rfl ?_
  refine xw_lw (fun s36 e_s36 => ?_)
  have hJ_s36 : jx_J s36 := by rw [e_s36]; exact (jx_u hJ_s35 (by decide))
  refine xw_aload0 dr_switchTask_199 ?_
  refine xw_getR dr_switchTask_200 fl_r_19 (xl_n hn (by decide)) rfl r_1_1 ?_
  refine xw_aload0 dr_switchTask_203 ?_
  refine xw_getR dr_switchTask_204 fl_r_48 (xl_n hn (by decide)) rfl r_1_7 ?_
  refine xw_bipush dr_switchTask_207 kb_6 ?_
  refine xw_iald dr_switchTask_209 (xl_n hn (by decide)) rfl vc_6_8 cn_6 ?_
  refine xw_iconst dr_switchTask_210 ki_3 ?_
  refine xw_iand dr_switchTask_211 ?_
  refine xw_putI dr_switchTask_212 fl_r_157 nf_3_6 (by decide) (xl_n hn (by decide)) rfl ?_
  refine xw_lw (fun s37 e_s37 => ?_)
  have hJ_s37 : jx_J s37 := by rw [e_s37]; exact (jx_u hJ_s36 (by decide))
  refine xw_aload0 dr_switchTask_215 ?_
  refine xw_getR dr_switchTask_216 fl_r_19 (xl_n hn (by decide)) rfl r_1_1 ?_
  refine xw_aload0 dr_switchTask_219 ?_
  refine xw_getR dr_switchTask_220 fl_r_48 (xl_n hn (by decide)) rfl r_1_7 ?_
  refine xw_bipush dr_switchTask_223 kb_7 ?_
  refine xw_iald dr_switchTask_225 (xl_n hn (by decide)) rfl vc_7_8 cn_7 ?_
  refine xw_bipush dr_switchTask_226 kb_31 ?_
  refine xw_iand dr_switchTask_228 ?_
  refine xw_putI dr_switchTask_229 fl_r_77 nf_3_9 (by decide) (xl_n hn (by decide)) rfl ?_
  refine xw_lw (fun s38 e_s38 => ?_)
  have hJ_s38 : jx_J s38 := by rw [e_s38]; exact (jx_p hJ_s37)
  refine xw_aload0 dr_switchTask_232 ?_
  refine xw_iconst dr_switchTask_233 ki_0 ?_
  refine xw_aload0 dr_switchTask_234 ?_
  refine xw_getR dr_switchTask_235 fl_r_48 (xl_n hn (by decide)) rfl r_1_7 ?_
  refine xw_iconst dr_switchTask_238 ki_3 ?_
  refine xw_iald dr_switchTask_239 (xl_n hn (by decide)) rfl vc_3_8 cn_3 ?_
  refine xw_cTu dr_switchTask_240 (lk_r_switchTask_240 (xl_n hn (by decide)) rfl) ok_r_takeSegment (mr_takeSegment hl hn hJ_s38) ⟨Nat.le_of_ble_eq_true rfl, Nat.le_of_ble_eq_true rfl⟩ rfl (fun b39 s40 h_s40 => ?_)
  have hJ_s40 : jx_J s40 := xj_o (jr_takeSegment hJ_s38) h_s40
  refine xw_aload0 dr_switchTask_243 ?_
  refine xw_iconst dr_switchTask_244 ki_1 ?_
  refine xw_aload0 dr_switchTask_245 ?_
  refine xw_getR dr_switchTask_246 fl_r_48 (xl_n hn (by decide)) rfl r_1_7 ?_
  refine xw_iconst dr_switchTask_249 ki_4 ?_
  refine xw_iald dr_switchTask_250 (xl_n hn (by decide)) rfl vc_4_8 cn_4 ?_
  refine xw_cTu dr_switchTask_251 (lk_r_switchTask_251 (xl_n hn (by decide)) rfl) ok_r_takeSegment (mr_takeSegment hl hn hJ_s40) ⟨Nat.le_of_ble_eq_true rfl, Nat.le_of_ble_eq_true rfl⟩ rfl (fun b41 s42 h_s42 => ?_)
  have hJ_s42 : jx_J s42 := xj_o (jr_takeSegment hJ_s40) h_s42
  refine xw_aload0 dr_switchTask_254 ?_
  refine xw_iconst dr_switchTask_255 ki_2 ?_
  refine xw_aload0 dr_switchTask_256 ?_
  refine xw_getR dr_switchTask_257 fl_r_48 (xl_n hn (by decide)) rfl r_1_7 ?_
  refine xw_iconst dr_switchTask_260 ki_5 ?_
  refine xw_iald dr_switchTask_261 (xl_n hn (by decide)) rfl vc_5_8 cn_5 ?_
  refine xw_cTu dr_switchTask_262 (lk_r_switchTask_262 (xl_n hn (by decide)) rfl) ok_r_takeSegment (mr_takeSegment hl hn hJ_s42) ⟨Nat.le_of_ble_eq_true rfl, Nat.le_of_ble_eq_true rfl⟩ rfl (fun b43 s44 h_s44 => ?_)
  have hJ_s44 : jx_J s44 := xj_o (jr_takeSegment hJ_s42) h_s44
  exact xw_vret dr_switchTask_265 rfl
theorem jr_switchTask {a1 : Int32} {σ : xs_S} (hJ : jx_J σ) : jx_J (fr_switchTask a1 σ).2 := by
  unfold fr_switchTask
  refine xj_l (fun v1 e_v1 => ?_)
  refine xj_b (jx_refuse hJ) (fun b2 s3 h_s3 hJ_s3 => ?_)
  refine xj_b (jm_wordAt hJ_s3) (fun b4 s5 h_s5 hJ_s5 => ?_)
  refine xj_l (fun s6 e_s6 => ?_)
  have hJ_s6 : jx_J s6 := by rw [e_s6]; exact (jx_u hJ_s5 (by decide))
  refine xj_b (jm_wordAt hJ_s6) (fun b7 s8 h_s8 hJ_s8 => ?_)
  refine xj_l (fun s9 e_s9 => ?_)
  have hJ_s9 : jx_J s9 := by rw [e_s9]; exact (jx_u hJ_s8 (by decide))
  refine xj_b (jm_wordAt hJ_s9) (fun b10 s11 h_s11 hJ_s11 => ?_)
  refine xj_l (fun s12 e_s12 => ?_)
  have hJ_s12 : jx_J s12 := by rw [e_s12]; exact (jx_u hJ_s11 (by decide))
  refine xj_b (jm_wordAt hJ_s12) (fun b13 s14 h_s14 hJ_s14 => ?_)
  refine xj_l (fun s15 e_s15 => ?_)
  have hJ_s15 : jx_J s15 := by rw [e_s15]; exact (jx_u hJ_s14 (by decide))
  refine xj_b (jm_wordAt hJ_s15) (fun b16 s17 h_s17 hJ_s17 => ?_)
  refine xj_l (fun s18 e_s18 => ?_)
  have hJ_s18 : jx_J s18 := by rw [e_s18]; exact (jx_u hJ_s17 (by decide))
  refine xj_b (jm_wordAt hJ_s18) (fun b19 s20 h_s20 hJ_s20 => ?_)
  refine xj_l (fun s21 e_s21 => ?_)
  have hJ_s21 : jx_J s21 := by rw [e_s21]; exact (jx_u hJ_s20 (by decide))
  refine xj_b (jm_wordAt hJ_s21) (fun b22 s23 h_s23 hJ_s23 => ?_)
  refine xj_l (fun s24 e_s24 => ?_)
  have hJ_s24 : jx_J s24 := by rw [e_s24]; exact (jx_u hJ_s23 (by decide))
  refine xj_b (jm_wordAt hJ_s24) (fun b25 s26 h_s26 hJ_s26 => ?_)
  refine xj_l (fun s27 e_s27 => ?_)
  have hJ_s27 : jx_J s27 := by rw [e_s27]; exact (jx_u hJ_s26 (by decide))
  refine xj_b (jr_saveState hJ_s27) (fun b28 s29 h_s29 hJ_s29 => ?_)
  refine xj_b (jr_markTasks hJ_s29) (fun b30 s31 h_s31 hJ_s31 => ?_)
  refine xj_l (fun s32 e_s32 => ?_)
  have hJ_s32 : jx_J s32 := by rw [e_s32]; exact (jx_u hJ_s31 (by decide))
  refine xj_l (fun s33 e_s33 => ?_)
  have hJ_s33 : jx_J s33 := by rw [e_s33]; exact (jx_u hJ_s32 (by decide))
  refine xj_l (fun s34 e_s34 => ?_)
  have hJ_s34 : jx_J s34 := by rw [e_s34]; exact (jx_u hJ_s33 (by decide))
  refine xj_l (fun s35 e_s35 => ?_)
  have hJ_s35 : jx_J s35 := by rw [e_s35]; exact (jx_u hJ_s34 (by decide))
  refine xj_l (fun s36 e_s36 => ?_)
  have hJ_s36 : jx_J s36 := by rw [e_s36]; exact (jx_u hJ_s35 (by decide))
  refine xj_l (fun s37 e_s37 => ?_)
  have hJ_s37 : jx_J s37 := by rw [e_s37]; exact (jx_u hJ_s36 (by decide))
  refine xj_l (fun s38 e_s38 => ?_)
  have hJ_s38 : jx_J s38 := by rw [e_s38]; exact (jx_p hJ_s37)
  refine xj_b (jr_takeSegment hJ_s38) (fun b39 s40 h_s40 hJ_s40 => ?_)
  refine xj_b (jr_takeSegment hJ_s40) (fun b41 s42 h_s42 hJ_s42 => ?_)
  refine xj_b (jr_takeSegment hJ_s42) (fun b43 s44 h_s44 hJ_s44 => ?_)
  exact hJ_s44
def fr_findReturn (a1 : Int32) (σ : xs_S) : xp_P Unit := xl_l ((fr_codeOf a1 σ)) (fun v1 => xl_l ((fr_rplOf a1 σ)) (fun v2 => xp_b (fx_refuse (fr_isNull a1 σ) (13 : Int32) (0 : Int32) σ) (fun b3 s4 => xp_b (fx_refuse (if (s4 3 6) ≤ v2 then (0 : Int32) else (1 : Int32)) (13 : Int32) v1 s4) (fun b5 s6 => xp_b (fr_lookUp a1 14 s6) (fun b7 s8 => xl_l ((if (s8 14 3) = (1 : Int32) then (if (s8 14 4) = v2 then (1 : Int32) else (if (s8 14 3) = (2 : Int32) then (if v2 < (s8 14 4) then (0 : Int32) else (1 : Int32)) else (0 : Int32))) else (if (s8 14 3) = (2 : Int32) then (if v2 < (s8 14 4) then (0 : Int32) else (1 : Int32)) else (0 : Int32)))) (fun v9 => xp_b (fx_refuse (if v9 = 0 then (1 : Int32) else (0 : Int32)) (13 : Int32) v1 s8) (fun b10 s11 => xp_b (fx_refuse (if (s11 14 6) = 0 then (1 : Int32) else (0 : Int32)) (11 : Int32) v1 s11) (fun b12 s13 => (some (), s13)))))))))
set_option maxRecDepth 100000 in
set_option maxHeartbeats 4000000 in
theorem mr_findReturn {l : Launch} {N n u : Nat} {a1 : Int32} {σ : xs_S} (hl : l.stackTraces = false) (hn : 29 ≤ n) (hJ : jx_J σ) : xm_m (xk_k N) l tr_findReturn [.ref 1, .int a1] (n, u, σ, xr_0) (xe_t eu_u n u (fr_findReturn a1 σ)) := by
  refine xm_of hl ok_r_findReturn (Nat.le_of_ble_eq_true rfl) ?_
  show xw_w (xk_k N) l tr_findReturn 0 [some (.ref 1), some (.int a1), none, none, none] [] (n, u, σ, xr_0) (xe_t eu_u n u (fr_findReturn a1 σ))
  unfold fr_findReturn
  refine xw_iload1 dr_findReturn_0 ?_
  refine xw_cVi dr_findReturn_1 (lk_r_findReturn_1) ok_r_codeOf (mr_codeOf hl hn) ⟨Nat.le_of_ble_eq_true rfl, Nat.le_of_ble_eq_true rfl⟩ ?_
  refine xw_li (fun v1 e_v1 => ?_)
  refine xw_istore2 dr_findReturn_4 (Nat.le_of_ble_eq_true rfl) rfl ?_
  refine xw_iload1 dr_findReturn_5 ?_
  refine xw_cVi dr_findReturn_6 (lk_r_findReturn_6) ok_r_rplOf (mr_rplOf hl hn) ⟨Nat.le_of_ble_eq_true rfl, Nat.le_of_ble_eq_true rfl⟩ ?_
  refine xw_li (fun v2 e_v2 => ?_)
  refine xw_istore3 dr_findReturn_9 (Nat.le_of_ble_eq_true rfl) rfl ?_
  refine xw_aload0 dr_findReturn_10 ?_
  refine xw_getR dr_findReturn_11 fl_r_10 (xl_n hn (by decide)) rfl r_1_0 ?_
  refine xw_iload1 dr_findReturn_14 ?_
  refine xw_cVi dr_findReturn_15 (lk_r_findReturn_15) ok_r_isNull (mr_isNull hl hn) ⟨Nat.le_of_ble_eq_true rfl, Nat.le_of_ble_eq_true rfl⟩ ?_
  refine xw_bipush dr_findReturn_18 kb_13 ?_
  refine xw_iconst dr_findReturn_20 ki_0 ?_
  refine xw_cTu dr_findReturn_21 (lk_r_findReturn_21 (xl_n hn (by decide)) rfl) ok_x_refuse (mx_refuse hl hn) ⟨Nat.le_of_ble_eq_true rfl, Nat.le_of_ble_eq_true rfl⟩ rfl (fun b3 s4 h_s4 => ?_)
  have hJ_s4 : jx_J s4 := xj_o (jx_refuse hJ) h_s4
  refine xw_aload0 dr_findReturn_24 ?_
  refine xw_getR dr_findReturn_25 fl_r_10 (xl_n hn (by decide)) rfl r_1_0 ?_
  refine xw_iload3 dr_findReturn_28 ?_
  refine xw_aload0 dr_findReturn_29 ?_
  refine xw_getR dr_findReturn_30 fl_r_19 (xl_n hn (by decide)) rfl r_1_1 ?_
  refine xw_getI dr_findReturn_33 fl_r_157 (by decide) (xl_n hn (by decide)) rfl ?_
  refine xw_icmp_ge_mi (J := 44) (a := (0 : Int32)) (b := (1 : Int32)) dr_findReturn_36 rfl (fun _ E' k' => ?_) (fun _ E' k' => ?_) ?_
  · refine xw_iconst dr_findReturn_43 ki_0 ?_
    exact k'
  · refine xw_iconst dr_findReturn_39 ki_1 ?_
    refine xw_goto dr_findReturn_40 rfl ?_
    exact k'
  refine xw_bipush dr_findReturn_44 kb_13 ?_
  refine xw_iload2 dr_findReturn_46 ?_
  refine xw_cTu dr_findReturn_47 (lk_r_findReturn_47 (xl_n hn (by decide)) rfl) ok_x_refuse (mx_refuse hl hn) ⟨Nat.le_of_ble_eq_true rfl, Nat.le_of_ble_eq_true rfl⟩ rfl (fun b5 s6 h_s6 => ?_)
  have hJ_s6 : jx_J s6 := xj_o (jx_refuse hJ_s4) h_s6
  refine xw_aload0 dr_findReturn_50 ?_
  refine xw_iload1 dr_findReturn_51 ?_
  refine xw_aload0 dr_findReturn_52 ?_
  refine xw_getR dr_findReturn_53 fl_r_42 (xl_n hn (by decide)) rfl r_1_5 ?_
  refine xw_cTu dr_findReturn_56 (lk_r_findReturn_56 (xl_n hn (by decide)) rfl) ok_r_lookUp (mr_lookUp hl hn (by decide) (xl_n hn (by decide)) rfl hJ_s6) ⟨Nat.le_of_ble_eq_true rfl, Nat.le_of_ble_eq_true rfl⟩ rfl (fun b7 s8 h_s8 => ?_)
  have hJ_s8 : jx_J s8 := xj_o (jr_lookUp hJ_s6) h_s8
  refine xw_aload0 dr_findReturn_59 ?_
  refine xw_getR dr_findReturn_60 fl_r_42 (xl_n hn (by decide)) rfl r_1_5 ?_
  refine xw_getI dr_findReturn_63 fl_r_179 (by decide) (xl_n hn (by decide)) rfl ?_
  refine xw_iconst dr_findReturn_66 ki_1 ?_
  refine xw_icmp_ne_mi (J := 108) (a := (if (s8 14 4) = v2 then (1 : Int32) else (if (s8 14 3) = (2 : Int32) then (if v2 < (s8 14 4) then (0 : Int32) else (1 : Int32)) else (0 : Int32)))) (b := (if (s8 14 3) = (2 : Int32) then (if v2 < (s8 14 4) then (0 : Int32) else (1 : Int32)) else (0 : Int32))) dr_findReturn_67 rfl (fun _ E' k' => ?_) (fun _ E' k' => ?_) ?_
  · refine xw_aload0 dr_findReturn_81 ?_
    refine xw_getR dr_findReturn_82 fl_r_42 (xl_n hn (by decide)) rfl r_1_5 ?_
    refine xw_getI dr_findReturn_85 fl_r_179 (by decide) (xl_n hn (by decide)) rfl ?_
    refine xw_iconst dr_findReturn_88 ki_2 ?_
    refine xw_icmp_ne_mi (J := 108) (a := (if v2 < (s8 14 4) then (0 : Int32) else (1 : Int32))) (b := (0 : Int32)) dr_findReturn_89 rfl (fun _ E' k' => ?_) (fun _ E' k' => ?_) ?_
    · refine xw_iconst dr_findReturn_107 ki_0 ?_
      exact k'
    · refine xw_aload0 dr_findReturn_92 ?_
      refine xw_getR dr_findReturn_93 fl_r_42 (xl_n hn (by decide)) rfl r_1_5 ?_
      refine xw_getI dr_findReturn_96 fl_r_182 (by decide) (xl_n hn (by decide)) rfl ?_
      refine xw_iload3 dr_findReturn_99 ?_
      refine xw_icmp_gt_mi (J := 108) (a := (0 : Int32)) (b := (1 : Int32)) dr_findReturn_100 rfl (fun _ E' k' => ?_) (fun _ E' k' => ?_) ?_
      · refine xw_iconst dr_findReturn_107 ki_0 ?_
        exact k'
      · refine xw_iconst dr_findReturn_103 ki_1 ?_
        refine xw_goto dr_findReturn_104 rfl ?_
        exact k'
      exact k'
    exact k'
  · refine xw_aload0 dr_findReturn_70 ?_
    refine xw_getR dr_findReturn_71 fl_r_42 (xl_n hn (by decide)) rfl r_1_5 ?_
    refine xw_getI dr_findReturn_74 fl_r_182 (by decide) (xl_n hn (by decide)) rfl ?_
    refine xw_iload3 dr_findReturn_77 ?_
    refine xw_icmp_eq_mi (J := 108) (a := (1 : Int32)) (b := (if (s8 14 3) = (2 : Int32) then (if v2 < (s8 14 4) then (0 : Int32) else (1 : Int32)) else (0 : Int32))) dr_findReturn_78 rfl (fun _ E' k' => ?_) (fun _ E' k' => ?_) ?_
    · refine xw_iconst dr_findReturn_103 ki_1 ?_
      refine xw_goto dr_findReturn_104 rfl ?_
      exact k'
    · refine xw_aload0 dr_findReturn_81 ?_
      refine xw_getR dr_findReturn_82 fl_r_42 (xl_n hn (by decide)) rfl r_1_5 ?_
      refine xw_getI dr_findReturn_85 fl_r_179 (by decide) (xl_n hn (by decide)) rfl ?_
      refine xw_iconst dr_findReturn_88 ki_2 ?_
      refine xw_icmp_ne_mi (J := 108) (a := (if v2 < (s8 14 4) then (0 : Int32) else (1 : Int32))) (b := (0 : Int32)) dr_findReturn_89 rfl (fun _ E' k' => ?_) (fun _ E' k' => ?_) ?_
      · refine xw_iconst dr_findReturn_107 ki_0 ?_
        exact k'
      · refine xw_aload0 dr_findReturn_92 ?_
        refine xw_getR dr_findReturn_93 fl_r_42 (xl_n hn (by decide)) rfl r_1_5 ?_
        refine xw_getI dr_findReturn_96 fl_r_182 (by decide) (xl_n hn (by decide)) rfl ?_
        refine xw_iload3 dr_findReturn_99 ?_
        refine xw_icmp_gt_mi (J := 108) (a := (0 : Int32)) (b := (1 : Int32)) dr_findReturn_100 rfl (fun _ E' k' => ?_) (fun _ E' k' => ?_) ?_
        · refine xw_iconst dr_findReturn_107 ki_0 ?_
          exact k'
        · refine xw_iconst dr_findReturn_103 ki_1 ?_
          refine xw_goto dr_findReturn_104 rfl ?_
          exact k'
        exact k'
      exact k'
    exact k'
  refine xw_li (fun v9 e_v9 => ?_)
  refine xw_istore4 dr_findReturn_108 (Nat.le_of_ble_eq_true rfl) rfl ?_
  refine xw_aload0 dr_findReturn_110 ?_
  refine xw_getR dr_findReturn_111 fl_r_10 (xl_n hn (by decide)) rfl r_1_0 ?_
  refine xw_iload4 dr_findReturn_114 ?_
  refine xw_if_ne_mi (J := 124) (a := (1 : Int32)) (b := (0 : Int32)) dr_findReturn_116 rfl (fun _ E' k' => ?_) (fun _ E' k' => ?_) ?_
  · refine xw_iconst dr_findReturn_123 ki_0 ?_
    exact k'
  · refine xw_iconst dr_findReturn_119 ki_1 ?_
    refine xw_goto dr_findReturn_120 rfl ?_
    exact k'
  refine xw_bipush dr_findReturn_124 kb_13 ?_
  refine xw_iload2 dr_findReturn_126 ?_
  refine xw_cTu dr_findReturn_127 (lk_r_findReturn_127 (xl_n hn (by decide)) rfl) ok_x_refuse (mx_refuse hl hn) ⟨Nat.le_of_ble_eq_true rfl, Nat.le_of_ble_eq_true rfl⟩ rfl (fun b10 s11 h_s11 => ?_)
  have hJ_s11 : jx_J s11 := xj_o (jx_refuse hJ_s8) h_s11
  refine xw_aload0 dr_findReturn_130 ?_
  refine xw_getR dr_findReturn_131 fl_r_10 (xl_n hn (by decide)) rfl r_1_0 ?_
  refine xw_aload0 dr_findReturn_134 ?_
  refine xw_getR dr_findReturn_135 fl_r_42 (xl_n hn (by decide)) rfl r_1_5 ?_
  refine xw_getI dr_findReturn_138 fl_r_231 (by decide) (xl_n hn (by decide)) rfl ?_
  refine xw_if_ne_mi (J := 149) (a := (1 : Int32)) (b := (0 : Int32)) dr_findReturn_141 rfl (fun _ E' k' => ?_) (fun _ E' k' => ?_) ?_
  · refine xw_iconst dr_findReturn_148 ki_0 ?_
    exact k'
  · refine xw_iconst dr_findReturn_144 ki_1 ?_
    refine xw_goto dr_findReturn_145 rfl ?_
    exact k'
  refine xw_bipush dr_findReturn_149 kb_11 ?_
  refine xw_iload2 dr_findReturn_151 ?_
  refine xw_cTu dr_findReturn_152 (lk_r_findReturn_152 (xl_n hn (by decide)) rfl) ok_x_refuse (mx_refuse hl hn) ⟨Nat.le_of_ble_eq_true rfl, Nat.le_of_ble_eq_true rfl⟩ rfl (fun b12 s13 h_s13 => ?_)
  have hJ_s13 : jx_J s13 := xj_o (jx_refuse hJ_s11) h_s13
  exact xw_vret dr_findReturn_155 rfl
theorem jr_findReturn {a1 : Int32} {σ : xs_S} (hJ : jx_J σ) : jx_J (fr_findReturn a1 σ).2 := by
  unfold fr_findReturn
  refine xj_l (fun v1 e_v1 => ?_)
  refine xj_l (fun v2 e_v2 => ?_)
  refine xj_b (jx_refuse hJ) (fun b3 s4 h_s4 hJ_s4 => ?_)
  refine xj_b (jx_refuse hJ_s4) (fun b5 s6 h_s6 hJ_s6 => ?_)
  refine xj_b (jr_lookUp hJ_s6) (fun b7 s8 h_s8 hJ_s8 => ?_)
  refine xj_l (fun v9 e_v9 => ?_)
  refine xj_b (jx_refuse hJ_s8) (fun b10 s11 h_s11 hJ_s11 => ?_)
  refine xj_b (jx_refuse hJ_s11) (fun b12 s13 h_s13 hJ_s13 => ?_)
  exact hJ_s13
def fr_findOuterStack (a1 : Int32) (a2 : Int32) (σ : xs_S) : xp_P Unit := xl_l ((fr_codeOf a1 σ)) (fun v1 => xp_b (fx_refuse (fr_isNull a1 σ) (13 : Int32) (0 : Int32) σ) (fun b2 s3 => xp_b (fr_lookUp a1 15 s3) (fun b4 s5 => xl_l ((if (fr_rplOf a1 s5) = a2 then (if (s5 15 3) = (4 : Int32) then (if (s5 15 4) = a2 then (1 : Int32) else (0 : Int32)) else (0 : Int32)) else (0 : Int32))) (fun v6 => xp_b (fx_refuse (if v6 = 0 then (1 : Int32) else (0 : Int32)) (13 : Int32) v1 s5) (fun b7 s8 => xp_b (fx_refuse (if (s8 15 6) = 0 then (1 : Int32) else (0 : Int32)) (12 : Int32) v1 s8) (fun b9 s10 => (some (), s10)))))))
set_option maxRecDepth 100000 in
set_option maxHeartbeats 4000000 in
theorem mr_findOuterStack {l : Launch} {N n u : Nat} {a1 : Int32} {a2 : Int32} {σ : xs_S} (hl : l.stackTraces = false) (hn : 29 ≤ n) (hJ : jx_J σ) : xm_m (xk_k N) l tr_findOuterStack [.ref 1, .int a1, .int a2] (n, u, σ, xr_0) (xe_t eu_u n u (fr_findOuterStack a1 a2 σ)) := by
  refine xm_of hl ok_r_findOuterStack (Nat.le_of_ble_eq_true rfl) ?_
  show xw_w (xk_k N) l tr_findOuterStack 0 [some (.ref 1), some (.int a1), some (.int a2), none, none] [] (n, u, σ, xr_0) (xe_t eu_u n u (fr_findOuterStack a1 a2 σ))
  unfold fr_findOuterStack
  refine xw_iload1 dr_findOuterStack_0 ?_
  refine xw_cVi dr_findOuterStack_1 (lk_r_findOuterStack_1) ok_r_codeOf (mr_codeOf hl hn) ⟨Nat.le_of_ble_eq_true rfl, Nat.le_of_ble_eq_true rfl⟩ ?_
  refine xw_li (fun v1 e_v1 => ?_)
  refine xw_istore3 dr_findOuterStack_4 (Nat.le_of_ble_eq_true rfl) rfl ?_
  refine xw_aload0 dr_findOuterStack_5 ?_
  refine xw_getR dr_findOuterStack_6 fl_r_10 (xl_n hn (by decide)) rfl r_1_0 ?_
  refine xw_iload1 dr_findOuterStack_9 ?_
  refine xw_cVi dr_findOuterStack_10 (lk_r_findOuterStack_10) ok_r_isNull (mr_isNull hl hn) ⟨Nat.le_of_ble_eq_true rfl, Nat.le_of_ble_eq_true rfl⟩ ?_
  refine xw_bipush dr_findOuterStack_13 kb_13 ?_
  refine xw_iconst dr_findOuterStack_15 ki_0 ?_
  refine xw_cTu dr_findOuterStack_16 (lk_r_findOuterStack_16 (xl_n hn (by decide)) rfl) ok_x_refuse (mx_refuse hl hn) ⟨Nat.le_of_ble_eq_true rfl, Nat.le_of_ble_eq_true rfl⟩ rfl (fun b2 s3 h_s3 => ?_)
  have hJ_s3 : jx_J s3 := xj_o (jx_refuse hJ) h_s3
  refine xw_aload0 dr_findOuterStack_19 ?_
  refine xw_iload1 dr_findOuterStack_20 ?_
  refine xw_aload0 dr_findOuterStack_21 ?_
  refine xw_getR dr_findOuterStack_22 fl_r_45 (xl_n hn (by decide)) rfl r_1_6 ?_
  refine xw_cTu dr_findOuterStack_25 (lk_r_findOuterStack_25 (xl_n hn (by decide)) rfl) ok_r_lookUp (mr_lookUp hl hn (by decide) (xl_n hn (by decide)) rfl hJ_s3) ⟨Nat.le_of_ble_eq_true rfl, Nat.le_of_ble_eq_true rfl⟩ rfl (fun b4 s5 h_s5 => ?_)
  have hJ_s5 : jx_J s5 := xj_o (jr_lookUp hJ_s3) h_s5
  refine xw_iload1 dr_findOuterStack_28 ?_
  refine xw_cVi dr_findOuterStack_29 (lk_r_findOuterStack_29) ok_r_rplOf (mr_rplOf hl hn) ⟨Nat.le_of_ble_eq_true rfl, Nat.le_of_ble_eq_true rfl⟩ ?_
  refine xw_iload2 dr_findOuterStack_32 ?_
  refine xw_icmp_ne_mi (J := 63) (a := (if (s5 15 3) = (4 : Int32) then (if (s5 15 4) = a2 then (1 : Int32) else (0 : Int32)) else (0 : Int32))) (b := (0 : Int32)) dr_findOuterStack_33 rfl (fun _ E' k' => ?_) (fun _ E' k' => ?_) ?_
  · refine xw_iconst dr_findOuterStack_62 ki_0 ?_
    exact k'
  · refine xw_aload0 dr_findOuterStack_36 ?_
    refine xw_getR dr_findOuterStack_37 fl_r_45 (xl_n hn (by decide)) rfl r_1_6 ?_
    refine xw_getI dr_findOuterStack_40 fl_r_179 (by decide) (xl_n hn (by decide)) rfl ?_
    refine xw_iconst dr_findOuterStack_43 ki_4 ?_
    refine xw_icmp_ne_mi (J := 63) (a := (if (s5 15 4) = a2 then (1 : Int32) else (0 : Int32))) (b := (0 : Int32)) dr_findOuterStack_44 rfl (fun _ E' k' => ?_) (fun _ E' k' => ?_) ?_
    · refine xw_iconst dr_findOuterStack_62 ki_0 ?_
      exact k'
    · refine xw_aload0 dr_findOuterStack_47 ?_
      refine xw_getR dr_findOuterStack_48 fl_r_45 (xl_n hn (by decide)) rfl r_1_6 ?_
      refine xw_getI dr_findOuterStack_51 fl_r_182 (by decide) (xl_n hn (by decide)) rfl ?_
      refine xw_iload2 dr_findOuterStack_54 ?_
      refine xw_icmp_ne_mi (J := 63) (a := (1 : Int32)) (b := (0 : Int32)) dr_findOuterStack_55 rfl (fun _ E' k' => ?_) (fun _ E' k' => ?_) ?_
      · refine xw_iconst dr_findOuterStack_62 ki_0 ?_
        exact k'
      · refine xw_iconst dr_findOuterStack_58 ki_1 ?_
        refine xw_goto dr_findOuterStack_59 rfl ?_
        exact k'
      exact k'
    exact k'
  refine xw_li (fun v6 e_v6 => ?_)
  refine xw_istore4 dr_findOuterStack_63 (Nat.le_of_ble_eq_true rfl) rfl ?_
  refine xw_aload0 dr_findOuterStack_65 ?_
  refine xw_getR dr_findOuterStack_66 fl_r_10 (xl_n hn (by decide)) rfl r_1_0 ?_
  refine xw_iload4 dr_findOuterStack_69 ?_
  refine xw_if_ne_mi (J := 79) (a := (1 : Int32)) (b := (0 : Int32)) dr_findOuterStack_71 rfl (fun _ E' k' => ?_) (fun _ E' k' => ?_) ?_
  · refine xw_iconst dr_findOuterStack_78 ki_0 ?_
    exact k'
  · refine xw_iconst dr_findOuterStack_74 ki_1 ?_
    refine xw_goto dr_findOuterStack_75 rfl ?_
    exact k'
  refine xw_bipush dr_findOuterStack_79 kb_13 ?_
  refine xw_iload3 dr_findOuterStack_81 ?_
  refine xw_cTu dr_findOuterStack_82 (lk_r_findOuterStack_82 (xl_n hn (by decide)) rfl) ok_x_refuse (mx_refuse hl hn) ⟨Nat.le_of_ble_eq_true rfl, Nat.le_of_ble_eq_true rfl⟩ rfl (fun b7 s8 h_s8 => ?_)
  have hJ_s8 : jx_J s8 := xj_o (jx_refuse hJ_s5) h_s8
  refine xw_aload0 dr_findOuterStack_85 ?_
  refine xw_getR dr_findOuterStack_86 fl_r_10 (xl_n hn (by decide)) rfl r_1_0 ?_
  refine xw_aload0 dr_findOuterStack_89 ?_
  refine xw_getR dr_findOuterStack_90 fl_r_45 (xl_n hn (by decide)) rfl r_1_6 ?_
  refine xw_getI dr_findOuterStack_93 fl_r_231 (by decide) (xl_n hn (by decide)) rfl ?_
  refine xw_if_ne_mi (J := 104) (a := (1 : Int32)) (b := (0 : Int32)) dr_findOuterStack_96 rfl (fun _ E' k' => ?_) (fun _ E' k' => ?_) ?_
  · refine xw_iconst dr_findOuterStack_103 ki_0 ?_
    exact k'
  · refine xw_iconst dr_findOuterStack_99 ki_1 ?_
    refine xw_goto dr_findOuterStack_100 rfl ?_
    exact k'
  refine xw_bipush dr_findOuterStack_104 kb_12 ?_
  refine xw_iload3 dr_findOuterStack_106 ?_
  refine xw_cTu dr_findOuterStack_107 (lk_r_findOuterStack_107 (xl_n hn (by decide)) rfl) ok_x_refuse (mx_refuse hl hn) ⟨Nat.le_of_ble_eq_true rfl, Nat.le_of_ble_eq_true rfl⟩ rfl (fun b9 s10 h_s10 => ?_)
  have hJ_s10 : jx_J s10 := xj_o (jx_refuse hJ_s8) h_s10
  exact xw_vret dr_findOuterStack_110 rfl
theorem jr_findOuterStack {a1 : Int32} {a2 : Int32} {σ : xs_S} (hJ : jx_J σ) : jx_J (fr_findOuterStack a1 a2 σ).2 := by
  unfold fr_findOuterStack
  refine xj_l (fun v1 e_v1 => ?_)
  refine xj_b (jx_refuse hJ) (fun b2 s3 h_s3 hJ_s3 => ?_)
  refine xj_b (jr_lookUp hJ_s3) (fun b4 s5 h_s5 hJ_s5 => ?_)
  refine xj_l (fun v6 e_v6 => ?_)
  refine xj_b (jx_refuse hJ_s5) (fun b7 s8 h_s8 hJ_s8 => ?_)
  refine xj_b (jx_refuse hJ_s8) (fun b9 s10 h_s10 hJ_s10 => ?_)
  exact hJ_s10
def fr_hideData (σ : xs_S) : xs_S := xl_l ((if (fr_isNull (σ 6 0) σ) = 0 then (if (σ 6 3) = (2 : Int32) then (1 : Int32) else (0 : Int32)) else (1 : Int32))) (fun v1 => (if v1 = 0 then (if (σ 3 6) ≤ (σ 6 4) then σ else xl_l ((fd_clear 6 σ)) (fun s4 => s4)) else σ))
set_option maxRecDepth 100000 in
set_option maxHeartbeats 4000000 in
theorem mr_hideData {l : Launch} {N n u : Nat} {σ : xs_S} (hl : l.stackTraces = false) (hn : 29 ≤ n) : xm_m (xk_k N) l tr_hideData [.ref 1] (n, u, σ, xr_0) (xe_w n u (fr_hideData σ)) := by
  refine xm_of hl ok_r_hideData (Nat.le_of_ble_eq_true rfl) ?_
  show xw_w (xk_k N) l tr_hideData 0 [some (.ref 1), none] [] (n, u, σ, xr_0) (xe_w n u (fr_hideData σ))
  unfold fr_hideData
  refine xw_aload0 dr_hideData_0 ?_
  refine xw_getR dr_hideData_1 fl_r_19 (xl_n hn (by decide)) rfl r_1_1 ?_
  refine xw_getR dr_hideData_4 fl_r_148 (xl_n hn (by decide)) rfl r_3_2 ?_
  refine xw_getI dr_hideData_7 fl_r_142 (by decide) (xl_n hn (by decide)) rfl ?_
  refine xw_cVi dr_hideData_10 (lk_r_hideData_10) ok_r_isNull (mr_isNull hl hn) ⟨Nat.le_of_ble_eq_true rfl, Nat.le_of_ble_eq_true rfl⟩ ?_
  refine xw_if_ne_mi (J := 35) (a := (if (σ 6 3) = (2 : Int32) then (1 : Int32) else (0 : Int32))) (b := (1 : Int32)) dr_hideData_13 rfl (fun _ E' k' => ?_) (fun _ E' k' => ?_) ?_
  · refine xw_iconst dr_hideData_30 ki_1 ?_
    refine xw_goto dr_hideData_31 rfl ?_
    exact k'
  · refine xw_aload0 dr_hideData_16 ?_
    refine xw_getR dr_hideData_17 fl_r_19 (xl_n hn (by decide)) rfl r_1_1 ?_
    refine xw_getR dr_hideData_20 fl_r_148 (xl_n hn (by decide)) rfl r_3_2 ?_
    refine xw_getI dr_hideData_23 fl_r_179 (by decide) (xl_n hn (by decide)) rfl ?_
    refine xw_iconst dr_hideData_26 ki_2 ?_
    refine xw_icmp_ne_mi (J := 35) (a := (1 : Int32)) (b := (0 : Int32)) dr_hideData_27 rfl (fun _ E' k' => ?_) (fun _ E' k' => ?_) ?_
    · refine xw_iconst dr_hideData_34 ki_0 ?_
      exact k'
    · refine xw_iconst dr_hideData_30 ki_1 ?_
      refine xw_goto dr_hideData_31 rfl ?_
      exact k'
    exact k'
  refine xw_li (fun v1 e_v1 => ?_)
  refine xw_istore1 dr_hideData_35 (Nat.le_of_ble_eq_true rfl) rfl ?_
  refine xw_iload1 dr_hideData_36 ?_
  refine xw_if_ne' dr_hideData_37 rfl (fun h2 => ?_) (fun h2 => ?_)
  · exact xw_vret dr_hideData_70 rfl
  · refine xw_aload0 dr_hideData_40 ?_
    refine xw_getR dr_hideData_41 fl_r_19 (xl_n hn (by decide)) rfl r_1_1 ?_
    refine xw_getR dr_hideData_44 fl_r_148 (xl_n hn (by decide)) rfl r_3_2 ?_
    refine xw_getI dr_hideData_47 fl_r_182 (by decide) (xl_n hn (by decide)) rfl ?_
    refine xw_aload0 dr_hideData_50 ?_
    refine xw_getR dr_hideData_51 fl_r_19 (xl_n hn (by decide)) rfl r_1_1 ?_
    refine xw_getI dr_hideData_54 fl_r_157 (by decide) (xl_n hn (by decide)) rfl ?_
    refine xw_icmp_ge' dr_hideData_57 rfl (fun h3 => ?_) (fun h3 => ?_)
    · exact xw_vret dr_hideData_70 rfl
    · refine xw_aload0 dr_hideData_60 ?_
      refine xw_getR dr_hideData_61 fl_r_19 (xl_n hn (by decide)) rfl r_1_1 ?_
      refine xw_getR dr_hideData_64 fl_r_148 (xl_n hn (by decide)) rfl r_3_2 ?_
      refine xw_cW dr_hideData_67 (lk_r_hideData_67 (xl_n hn (by decide)) rfl) ok_d_clear (md_clear hl hn (by decide) (xl_n hn (by decide)) rfl) ⟨Nat.le_of_ble_eq_true rfl, Nat.le_of_ble_eq_true rfl⟩ ?_
      refine xw_lw (fun s4 e_s4 => ?_)
      exact xw_vret dr_hideData_70 rfl
theorem jr_hideData {σ : xs_S} (hJ : jx_J σ) : jx_J (fr_hideData σ) := by
  unfold fr_hideData
  refine xj_wl (fun v1 e_v1 => ?_)
  refine xj_wf (fun h2 => ?_) (fun h2 => ?_)
  · refine xj_wf (fun h3 => ?_) (fun h3 => ?_)
    · exact hJ
    · refine xj_wl (fun s4 e_s4 => ?_)
      have hJ_s4 : jx_J s4 := by rw [e_s4]; exact (jd_clear hJ)
      exact hJ_s4
  · exact hJ
def fr_goBack (a1 : Int32) (σ : xs_S) : xp_P Unit := xp_b (fr_popWord σ) (fun b1 s2 => xp_b (fr_popWord s2) (fun b3 s4 => (if a1 = 0 then xl_l ((fr_rplOf b3 s4)) (fun v6 => xp_b (fr_findReturn b3 s4) (fun b7 s8 => xl_l ((if v6 ≤ (s8 3 6) then (0 : Int32) else (1 : Int32))) (fun v9 => (if v9 = 0 then xl_l ((xu_u s8 3 6 v6)) (fun s11 => xp_b (fr_enter 14 b1 s11) (fun b12 s13 => (some (), s13))) else xp_b (fr_popWord s8) (fun b14 s15 => xp_b (fr_popWord s15) (fun b16 s17 => xp_b (fr_findOuterStack b16 v6 s17) (fun b18 s19 => xl_l ((fd_copy 5 15 s19)) (fun s20 => xl_l ((xu_u s20 3 3 b14)) (fun s21 => xl_l ((xu_u s21 3 6 v6)) (fun s22 => xp_b (fr_enter 14 b1 s22) (fun b23 s24 => xl_l ((fr_hideData s24)) (fun s25 => (some (), s25))))))))))))) else xp_b (fr_popWord s4) (fun b26 s27 => xl_l ((xu_u s27 3 5 (b26 &&& (3 : Int32)))) (fun s28 => xl_l ((fr_rplOf b3 s28)) (fun v29 => xp_b (fr_findReturn b3 s28) (fun b30 s31 => xl_l ((if v29 ≤ (s31 3 6) then (0 : Int32) else (1 : Int32))) (fun v32 => (if v32 = 0 then xl_l ((xu_u s31 3 6 v29)) (fun s34 => xp_b (fr_enter 14 b1 s34) (fun b35 s36 => (some (), s36))) else xp_b (fr_popWord s31) (fun b37 s38 => xp_b (fr_popWord s38) (fun b39 s40 => xp_b (fr_findOuterStack b39 v29 s40) (fun b41 s42 => xl_l ((fd_copy 5 15 s42)) (fun s43 => xl_l ((xu_u s43 3 3 b37)) (fun s44 => xl_l ((xu_u s44 3 6 v29)) (fun s45 => xp_b (fr_enter 14 b1 s45) (fun b46 s47 => xl_l ((fr_hideData s47)) (fun s48 => (some (), s48))))))))))))))))))
set_option maxRecDepth 100000 in
set_option maxHeartbeats 4000000 in
theorem mr_goBack {l : Launch} {N n u : Nat} {a1 : Int32} {σ : xs_S} (hl : l.stackTraces = false) (hn : 29 ≤ n) (hJ : jx_J σ) : xm_m (xk_k N) l tr_goBack [.ref 1, .int a1] (n, u, σ, xr_0) (xe_t eu_u n u (fr_goBack a1 σ)) := by
  refine xm_of hl ok_r_goBack (Nat.le_of_ble_eq_true rfl) ?_
  show xw_w (xk_k N) l tr_goBack 0 [some (.ref 1), some (.int a1), none, none, none, none, none] [] (n, u, σ, xr_0) (xe_t eu_u n u (fr_goBack a1 σ))
  unfold fr_goBack
  refine xw_aload0 dr_goBack_0 ?_
  refine xw_cTi dr_goBack_1 (lk_r_goBack_1 (xl_n hn (by decide)) rfl) ok_r_popWord (mr_popWord hl hn hJ) ⟨Nat.le_of_ble_eq_true rfl, Nat.le_of_ble_eq_true rfl⟩ rfl (fun b1 s2 h_s2 => ?_)
  have hJ_s2 : jx_J s2 := xj_o (jr_popWord hJ) h_s2
  refine xw_istore2 dr_goBack_4 (Nat.le_of_ble_eq_true rfl) rfl ?_
  refine xw_aload0 dr_goBack_5 ?_
  refine xw_cTi dr_goBack_6 (lk_r_goBack_6 (xl_n hn (by decide)) rfl) ok_r_popWord (mr_popWord hl hn hJ_s2) ⟨Nat.le_of_ble_eq_true rfl, Nat.le_of_ble_eq_true rfl⟩ rfl (fun b3 s4 h_s4 => ?_)
  have hJ_s4 : jx_J s4 := xj_o (jr_popWord hJ_s2) h_s4
  refine xw_istore3 dr_goBack_9 (Nat.le_of_ble_eq_true rfl) rfl ?_
  refine xw_iload1 dr_goBack_10 ?_
  refine xw_if_eq' dr_goBack_11 rfl (fun h5 => ?_) (fun h5 => ?_)
  · refine xw_iload3 dr_goBack_27 ?_
    refine xw_cVi dr_goBack_28 (lk_r_goBack_28) ok_r_rplOf (mr_rplOf hl hn) ⟨Nat.le_of_ble_eq_true rfl, Nat.le_of_ble_eq_true rfl⟩ ?_
    refine xw_li (fun v6 e_v6 => ?_)
    refine xw_istore4 dr_goBack_31 (Nat.le_of_ble_eq_true rfl) rfl ?_
    refine xw_aload0 dr_goBack_33 ?_
    refine xw_iload3 dr_goBack_34 ?_
    refine xw_cTu dr_goBack_35 (lk_r_goBack_35 (xl_n hn (by decide)) rfl) ok_r_findReturn (mr_findReturn hl hn hJ_s4) ⟨Nat.le_of_ble_eq_true rfl, Nat.le_of_ble_eq_true rfl⟩ rfl (fun b7 s8 h_s8 => ?_)
    have hJ_s8 : jx_J s8 := xj_o (jr_findReturn hJ_s4) h_s8
    refine xw_iload4 dr_goBack_38 ?_
    refine xw_aload0 dr_goBack_40 ?_
    refine xw_getR dr_goBack_41 fl_r_19 (xl_n hn (by decide)) rfl r_1_1 ?_
    refine xw_getI dr_goBack_44 fl_r_157 (by decide) (xl_n hn (by decide)) rfl ?_
    refine xw_icmp_le_mi (J := 55) (a := (0 : Int32)) (b := (1 : Int32)) dr_goBack_47 rfl (fun _ E' k' => ?_) (fun _ E' k' => ?_) ?_
    · refine xw_iconst dr_goBack_54 ki_0 ?_
      exact k'
    · refine xw_iconst dr_goBack_50 ki_1 ?_
      refine xw_goto dr_goBack_51 rfl ?_
      exact k'
    refine xw_li (fun v9 e_v9 => ?_)
    refine xw_istore5 dr_goBack_55 (Nat.le_of_ble_eq_true rfl) rfl ?_
    refine xw_iload5 dr_goBack_57 ?_
    refine xw_if_eq' dr_goBack_59 rfl (fun h10 => ?_) (fun h10 => ?_)
    · refine xw_aload0 dr_goBack_101 ?_
      refine xw_getR dr_goBack_102 fl_r_19 (xl_n hn (by decide)) rfl r_1_1 ?_
      refine xw_iload4 dr_goBack_105 ?_
      refine xw_putI dr_goBack_107 fl_r_157 nf_3_6 (by decide) (xl_n hn (by decide)) rfl ?_
      refine xw_lw (fun s11 e_s11 => ?_)
      have hJ_s11 : jx_J s11 := by rw [e_s11]; exact (jx_u hJ_s8 (by decide))
      refine xw_aload0 dr_goBack_110 ?_
      refine xw_aload0 dr_goBack_111 ?_
      refine xw_getR dr_goBack_112 fl_r_42 (xl_n hn (by decide)) rfl r_1_5 ?_
      refine xw_iload2 dr_goBack_115 ?_
      refine xw_cTu dr_goBack_116 (lk_r_goBack_116 (xl_n hn (by decide)) rfl) ok_r_enter (mr_enter hl hn (by decide) (xl_n hn (by decide)) rfl hJ_s11) ⟨Nat.le_of_ble_eq_true rfl, Nat.le_of_ble_eq_true rfl⟩ rfl (fun b12 s13 h_s13 => ?_)
      have hJ_s13 : jx_J s13 := xj_o (jr_enter hJ_s11) h_s13
      refine xw_iload5 dr_goBack_119 ?_
      refine xw_if_eq_t dr_goBack_121 rfl h10 ?_
      exact xw_vret dr_goBack_128 rfl
    · refine xw_aload0 dr_goBack_62 ?_
      refine xw_cTi dr_goBack_63 (lk_r_goBack_63 (xl_n hn (by decide)) rfl) ok_r_popWord (mr_popWord hl hn hJ_s8) ⟨Nat.le_of_ble_eq_true rfl, Nat.le_of_ble_eq_true rfl⟩ rfl (fun b14 s15 h_s15 => ?_)
      have hJ_s15 : jx_J s15 := xj_o (jr_popWord hJ_s8) h_s15
      refine xw_istore6 dr_goBack_66 (Nat.le_of_ble_eq_true rfl) rfl ?_
      refine xw_aload0 dr_goBack_68 ?_
      refine xw_aload0 dr_goBack_69 ?_
      refine xw_cTi dr_goBack_70 (lk_r_goBack_70 (xl_n hn (by decide)) rfl) ok_r_popWord (mr_popWord hl hn hJ_s15) ⟨Nat.le_of_ble_eq_true rfl, Nat.le_of_ble_eq_true rfl⟩ rfl (fun b16 s17 h_s17 => ?_)
      have hJ_s17 : jx_J s17 := xj_o (jr_popWord hJ_s15) h_s17
      refine xw_iload4 dr_goBack_73 ?_
      refine xw_cTu dr_goBack_75 (lk_r_goBack_75 (xl_n hn (by decide)) rfl) ok_r_findOuterStack (mr_findOuterStack hl hn hJ_s17) ⟨Nat.le_of_ble_eq_true rfl, Nat.le_of_ble_eq_true rfl⟩ rfl (fun b18 s19 h_s19 => ?_)
      have hJ_s19 : jx_J s19 := xj_o (jr_findOuterStack hJ_s17) h_s19
      refine xw_aload0 dr_goBack_78 ?_
      refine xw_getR dr_goBack_79 fl_r_19 (xl_n hn (by decide)) rfl r_1_1 ?_
      refine xw_getR dr_goBack_82 fl_r_145 (xl_n hn (by decide)) rfl r_3_1 ?_
      refine xw_aload0 dr_goBack_85 ?_
      refine xw_getR dr_goBack_86 fl_r_45 (xl_n hn (by decide)) rfl r_1_6 ?_
      refine xw_cW dr_goBack_89 (lk_r_goBack_89 (xl_n hn (by decide)) rfl) ok_d_copy (md_copy hl hn (by decide) (xl_n hn (by decide)) rfl (by decide) (xl_n hn (by decide)) rfl) ⟨Nat.le_of_ble_eq_true rfl, Nat.le_of_ble_eq_true rfl⟩ ?_
      refine xw_lw (fun s20 e_s20 => ?_)
      have hJ_s20 : jx_J s20 := by rw [e_s20]; exact (jd_copy (by decide) hJ_s19)
      refine xw_aload0 dr_goBack_92 ?_
      refine xw_getR dr_goBack_93 fl_r_19 (xl_n hn (by decide)) rfl r_1_1 ?_
      refine xw_iload6 dr_goBack_96 ?_
      refine xw_putI dr_goBack_98 fl_r_151 nf_3_3 (by decide) (xl_n hn (by decide)) rfl ?_
      refine xw_lw (fun s21 e_s21 => ?_)
      have hJ_s21 : jx_J s21 := by rw [e_s21]; exact (jx_u hJ_s20 (by decide))
      refine xw_aload0 dr_goBack_101 ?_
      refine xw_getR dr_goBack_102 fl_r_19 (xl_n hn (by decide)) rfl r_1_1 ?_
      refine xw_iload4 dr_goBack_105 ?_
      refine xw_putI dr_goBack_107 fl_r_157 nf_3_6 (by decide) (xl_n hn (by decide)) rfl ?_
      refine xw_lw (fun s22 e_s22 => ?_)
      have hJ_s22 : jx_J s22 := by rw [e_s22]; exact (jx_u hJ_s21 (by decide))
      refine xw_aload0 dr_goBack_110 ?_
      refine xw_aload0 dr_goBack_111 ?_
      refine xw_getR dr_goBack_112 fl_r_42 (xl_n hn (by decide)) rfl r_1_5 ?_
      refine xw_iload2 dr_goBack_115 ?_
      refine xw_cTu dr_goBack_116 (lk_r_goBack_116 (xl_n hn (by decide)) rfl) ok_r_enter (mr_enter hl hn (by decide) (xl_n hn (by decide)) rfl hJ_s22) ⟨Nat.le_of_ble_eq_true rfl, Nat.le_of_ble_eq_true rfl⟩ rfl (fun b23 s24 h_s24 => ?_)
      have hJ_s24 : jx_J s24 := xj_o (jr_enter hJ_s22) h_s24
      refine xw_iload5 dr_goBack_119 ?_
      refine xw_if_eq_f dr_goBack_121 rfl h10 ?_
      refine xw_aload0 dr_goBack_124 ?_
      refine xw_cW dr_goBack_125 (lk_r_goBack_125 (xl_n hn (by decide)) rfl) ok_r_hideData (mr_hideData hl hn) ⟨Nat.le_of_ble_eq_true rfl, Nat.le_of_ble_eq_true rfl⟩ ?_
      refine xw_lw (fun s25 e_s25 => ?_)
      have hJ_s25 : jx_J s25 := by rw [e_s25]; exact (jr_hideData hJ_s24)
      exact xw_vret dr_goBack_128 rfl
  · refine xw_aload0 dr_goBack_14 ?_
    refine xw_getR dr_goBack_15 fl_r_19 (xl_n hn (by decide)) rfl r_1_1 ?_
    refine xw_aload0 dr_goBack_18 ?_
    refine xw_cTi dr_goBack_19 (lk_r_goBack_19 (xl_n hn (by decide)) rfl) ok_r_popWord (mr_popWord hl hn hJ_s4) ⟨Nat.le_of_ble_eq_true rfl, Nat.le_of_ble_eq_true rfl⟩ rfl (fun b26 s27 h_s27 => ?_)
    have hJ_s27 : jx_J s27 := xj_o (jr_popWord hJ_s4) h_s27
    refine xw_iconst dr_goBack_22 ki_3 ?_
    refine xw_iand dr_goBack_23 ?_
    refine xw_putI dr_goBack_24 fl_r_133 nf_3_5 (by decide) (xl_n hn (by decide)) rfl ?_
    refine xw_lw (fun s28 e_s28 => ?_)
    have hJ_s28 : jx_J s28 := by rw [e_s28]; exact (jx_u hJ_s27 (by decide))
    refine xw_iload3 dr_goBack_27 ?_
    refine xw_cVi dr_goBack_28 (lk_r_goBack_28) ok_r_rplOf (mr_rplOf hl hn) ⟨Nat.le_of_ble_eq_true rfl, Nat.le_of_ble_eq_true rfl⟩ ?_
    refine xw_li (fun v29 e_v29 => ?_)
    refine xw_istore4 dr_goBack_31 (Nat.le_of_ble_eq_true rfl) rfl ?_
    refine xw_aload0 dr_goBack_33 ?_
    refine xw_iload3 dr_goBack_34 ?_
    refine xw_cTu dr_goBack_35 (lk_r_goBack_35 (xl_n hn (by decide)) rfl) ok_r_findReturn (mr_findReturn hl hn hJ_s28) ⟨Nat.le_of_ble_eq_true rfl, Nat.le_of_ble_eq_true rfl⟩ rfl (fun b30 s31 h_s31 => ?_)
    have hJ_s31 : jx_J s31 := xj_o (jr_findReturn hJ_s28) h_s31
    refine xw_iload4 dr_goBack_38 ?_
    refine xw_aload0 dr_goBack_40 ?_
    refine xw_getR dr_goBack_41 fl_r_19 (xl_n hn (by decide)) rfl r_1_1 ?_
    refine xw_getI dr_goBack_44 fl_r_157 (by decide) (xl_n hn (by decide)) rfl ?_
    refine xw_icmp_le_mi (J := 55) (a := (0 : Int32)) (b := (1 : Int32)) dr_goBack_47 rfl (fun _ E' k' => ?_) (fun _ E' k' => ?_) ?_
    · refine xw_iconst dr_goBack_54 ki_0 ?_
      exact k'
    · refine xw_iconst dr_goBack_50 ki_1 ?_
      refine xw_goto dr_goBack_51 rfl ?_
      exact k'
    refine xw_li (fun v32 e_v32 => ?_)
    refine xw_istore5 dr_goBack_55 (Nat.le_of_ble_eq_true rfl) rfl ?_
    refine xw_iload5 dr_goBack_57 ?_
    refine xw_if_eq' dr_goBack_59 rfl (fun h33 => ?_) (fun h33 => ?_)
    · refine xw_aload0 dr_goBack_101 ?_
      refine xw_getR dr_goBack_102 fl_r_19 (xl_n hn (by decide)) rfl r_1_1 ?_
      refine xw_iload4 dr_goBack_105 ?_
      refine xw_putI dr_goBack_107 fl_r_157 nf_3_6 (by decide) (xl_n hn (by decide)) rfl ?_
      refine xw_lw (fun s34 e_s34 => ?_)
      have hJ_s34 : jx_J s34 := by rw [e_s34]; exact (jx_u hJ_s31 (by decide))
      refine xw_aload0 dr_goBack_110 ?_
      refine xw_aload0 dr_goBack_111 ?_
      refine xw_getR dr_goBack_112 fl_r_42 (xl_n hn (by decide)) rfl r_1_5 ?_
      refine xw_iload2 dr_goBack_115 ?_
      refine xw_cTu dr_goBack_116 (lk_r_goBack_116 (xl_n hn (by decide)) rfl) ok_r_enter (mr_enter hl hn (by decide) (xl_n hn (by decide)) rfl hJ_s34) ⟨Nat.le_of_ble_eq_true rfl, Nat.le_of_ble_eq_true rfl⟩ rfl (fun b35 s36 h_s36 => ?_)
      have hJ_s36 : jx_J s36 := xj_o (jr_enter hJ_s34) h_s36
      refine xw_iload5 dr_goBack_119 ?_
      refine xw_if_eq_t dr_goBack_121 rfl h33 ?_
      exact xw_vret dr_goBack_128 rfl
    · refine xw_aload0 dr_goBack_62 ?_
      refine xw_cTi dr_goBack_63 (lk_r_goBack_63 (xl_n hn (by decide)) rfl) ok_r_popWord (mr_popWord hl hn hJ_s31) ⟨Nat.le_of_ble_eq_true rfl, Nat.le_of_ble_eq_true rfl⟩ rfl (fun b37 s38 h_s38 => ?_)
      have hJ_s38 : jx_J s38 := xj_o (jr_popWord hJ_s31) h_s38
      refine xw_istore6 dr_goBack_66 (Nat.le_of_ble_eq_true rfl) rfl ?_
      refine xw_aload0 dr_goBack_68 ?_
      refine xw_aload0 dr_goBack_69 ?_
      refine xw_cTi dr_goBack_70 (lk_r_goBack_70 (xl_n hn (by decide)) rfl) ok_r_popWord (mr_popWord hl hn hJ_s38) ⟨Nat.le_of_ble_eq_true rfl, Nat.le_of_ble_eq_true rfl⟩ rfl (fun b39 s40 h_s40 => ?_)
      have hJ_s40 : jx_J s40 := xj_o (jr_popWord hJ_s38) h_s40
      refine xw_iload4 dr_goBack_73 ?_
      refine xw_cTu dr_goBack_75 (lk_r_goBack_75 (xl_n hn (by decide)) rfl) ok_r_findOuterStack (mr_findOuterStack hl hn hJ_s40) ⟨Nat.le_of_ble_eq_true rfl, Nat.le_of_ble_eq_true rfl⟩ rfl (fun b41 s42 h_s42 => ?_)
      have hJ_s42 : jx_J s42 := xj_o (jr_findOuterStack hJ_s40) h_s42
      refine xw_aload0 dr_goBack_78 ?_
      refine xw_getR dr_goBack_79 fl_r_19 (xl_n hn (by decide)) rfl r_1_1 ?_
      refine xw_getR dr_goBack_82 fl_r_145 (xl_n hn (by decide)) rfl r_3_1 ?_
      refine xw_aload0 dr_goBack_85 ?_
      refine xw_getR dr_goBack_86 fl_r_45 (xl_n hn (by decide)) rfl r_1_6 ?_
      refine xw_cW dr_goBack_89 (lk_r_goBack_89 (xl_n hn (by decide)) rfl) ok_d_copy (md_copy hl hn (by decide) (xl_n hn (by decide)) rfl (by decide) (xl_n hn (by decide)) rfl) ⟨Nat.le_of_ble_eq_true rfl, Nat.le_of_ble_eq_true rfl⟩ ?_
      refine xw_lw (fun s43 e_s43 => ?_)
      have hJ_s43 : jx_J s43 := by rw [e_s43]; exact (jd_copy (by decide) hJ_s42)
      refine xw_aload0 dr_goBack_92 ?_
      refine xw_getR dr_goBack_93 fl_r_19 (xl_n hn (by decide)) rfl r_1_1 ?_
      refine xw_iload6 dr_goBack_96 ?_
      refine xw_putI dr_goBack_98 fl_r_151 nf_3_3 (by decide) (xl_n hn (by decide)) rfl ?_
      refine xw_lw (fun s44 e_s44 => ?_)
      have hJ_s44 : jx_J s44 := by rw [e_s44]; exact (jx_u hJ_s43 (by decide))
      refine xw_aload0 dr_goBack_101 ?_
      refine xw_getR dr_goBack_102 fl_r_19 (xl_n hn (by decide)) rfl r_1_1 ?_
      refine xw_iload4 dr_goBack_105 ?_
      refine xw_putI dr_goBack_107 fl_r_157 nf_3_6 (by decide) (xl_n hn (by decide)) rfl ?_
      refine xw_lw (fun s45 e_s45 => ?_)
      have hJ_s45 : jx_J s45 := by rw [e_s45]; exact (jx_u hJ_s44 (by decide))
      refine xw_aload0 dr_goBack_110 ?_
      refine xw_aload0 dr_goBack_111 ?_
      refine xw_getR dr_goBack_112 fl_r_42 (xl_n hn (by decide)) rfl r_1_5 ?_
      refine xw_iload2 dr_goBack_115 ?_
      refine xw_cTu dr_goBack_116 (lk_r_goBack_116 (xl_n hn (by decide)) rfl) ok_r_enter (mr_enter hl hn (by decide) (xl_n hn (by decide)) rfl hJ_s45) ⟨Nat.le_of_ble_eq_true rfl, Nat.le_of_ble_eq_true rfl⟩ rfl (fun b46 s47 h_s47 => ?_)
      have hJ_s47 : jx_J s47 := xj_o (jr_enter hJ_s45) h_s47
      refine xw_iload5 dr_goBack_119 ?_
      refine xw_if_eq_f dr_goBack_121 rfl h33 ?_
      refine xw_aload0 dr_goBack_124 ?_
      refine xw_cW dr_goBack_125 (lk_r_goBack_125 (xl_n hn (by decide)) rfl) ok_r_hideData (mr_hideData hl hn) ⟨Nat.le_of_ble_eq_true rfl, Nat.le_of_ble_eq_true rfl⟩ ?_
      refine xw_lw (fun s48 e_s48 => ?_)
      have hJ_s48 : jx_J s48 := by rw [e_s48]; exact (jr_hideData hJ_s47)
      exact xw_vret dr_goBack_128 rfl
theorem jr_goBack {a1 : Int32} {σ : xs_S} (hJ : jx_J σ) : jx_J (fr_goBack a1 σ).2 := by
  unfold fr_goBack
  refine xj_b (jr_popWord hJ) (fun b1 s2 h_s2 hJ_s2 => ?_)
  refine xj_b (jr_popWord hJ_s2) (fun b3 s4 h_s4 hJ_s4 => ?_)
  refine xj_f (fun h5 => ?_) (fun h5 => ?_)
  · refine xj_l (fun v6 e_v6 => ?_)
    refine xj_b (jr_findReturn hJ_s4) (fun b7 s8 h_s8 hJ_s8 => ?_)
    refine xj_l (fun v9 e_v9 => ?_)
    refine xj_f (fun h10 => ?_) (fun h10 => ?_)
    · refine xj_l (fun s11 e_s11 => ?_)
      have hJ_s11 : jx_J s11 := by rw [e_s11]; exact (jx_u hJ_s8 (by decide))
      refine xj_b (jr_enter hJ_s11) (fun b12 s13 h_s13 hJ_s13 => ?_)
      exact hJ_s13
    · refine xj_b (jr_popWord hJ_s8) (fun b14 s15 h_s15 hJ_s15 => ?_)
      refine xj_b (jr_popWord hJ_s15) (fun b16 s17 h_s17 hJ_s17 => ?_)
      refine xj_b (jr_findOuterStack hJ_s17) (fun b18 s19 h_s19 hJ_s19 => ?_)
      refine xj_l (fun s20 e_s20 => ?_)
      have hJ_s20 : jx_J s20 := by rw [e_s20]; exact (jd_copy (by decide) hJ_s19)
      refine xj_l (fun s21 e_s21 => ?_)
      have hJ_s21 : jx_J s21 := by rw [e_s21]; exact (jx_u hJ_s20 (by decide))
      refine xj_l (fun s22 e_s22 => ?_)
      have hJ_s22 : jx_J s22 := by rw [e_s22]; exact (jx_u hJ_s21 (by decide))
      refine xj_b (jr_enter hJ_s22) (fun b23 s24 h_s24 hJ_s24 => ?_)
      refine xj_l (fun s25 e_s25 => ?_)
      have hJ_s25 : jx_J s25 := by rw [e_s25]; exact (jr_hideData hJ_s24)
      exact hJ_s25
  · refine xj_b (jr_popWord hJ_s4) (fun b26 s27 h_s27 hJ_s27 => ?_)
    refine xj_l (fun s28 e_s28 => ?_)
    have hJ_s28 : jx_J s28 := by rw [e_s28]; exact (jx_u hJ_s27 (by decide))
    refine xj_l (fun v29 e_v29 => ?_)
    refine xj_b (jr_findReturn hJ_s28) (fun b30 s31 h_s31 hJ_s31 => ?_)
    refine xj_l (fun v32 e_v32 => ?_)
    refine xj_f (fun h33 => ?_) (fun h33 => ?_)
    · refine xj_l (fun s34 e_s34 => ?_)
      have hJ_s34 : jx_J s34 := by rw [e_s34]; exact (jx_u hJ_s31 (by decide))
      refine xj_b (jr_enter hJ_s34) (fun b35 s36 h_s36 hJ_s36 => ?_)
      exact hJ_s36
    · refine xj_b (jr_popWord hJ_s31) (fun b37 s38 h_s38 hJ_s38 => ?_)
      refine xj_b (jr_popWord hJ_s38) (fun b39 s40 h_s40 hJ_s40 => ?_)
      refine xj_b (jr_findOuterStack hJ_s40) (fun b41 s42 h_s42 hJ_s42 => ?_)
      refine xj_l (fun s43 e_s43 => ?_)
      have hJ_s43 : jx_J s43 := by rw [e_s43]; exact (jd_copy (by decide) hJ_s42)
      refine xj_l (fun s44 e_s44 => ?_)
      have hJ_s44 : jx_J s44 := by rw [e_s44]; exact (jx_u hJ_s43 (by decide))
      refine xj_l (fun s45 e_s45 => ?_)
      have hJ_s45 : jx_J s45 := by rw [e_s45]; exact (jx_u hJ_s44 (by decide))
      refine xj_b (jr_enter hJ_s45) (fun b46 s47 h_s47 hJ_s47 => ?_)
      refine xj_l (fun s48 e_s48 => ?_)
      have hJ_s48 : jx_J s48 := by rw [e_s48]; exact (jr_hideData hJ_s47)
      exact hJ_s48
