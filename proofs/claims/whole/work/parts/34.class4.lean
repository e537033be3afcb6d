def fr_switchTask (a1 : Int32) (σ : xs_S) : xp_P Unit := xl_l ((if (if (σ 13 3) = (6 : Int32) then (1 : Int32) else (0 : Int32)) = (if a1 = (2 : Int32) then (1 : Int32) else (0 : Int32)) then (1 : Int32) else (0 : Int32))) (fun v1 => xp_b (fx_refuse (if v1 = 0 then (1 : Int32) else (0 : Int32)) (13 : Int32) (fr_codeOf (σ 13 0) σ) σ) (fun b2 s3 => xp_b (fm_wordAt (((s3 13 1) + (14 : Int32)) + ((2 : Int32) * (0 : Int32))) (0 : Int32) s3) (fun b4 s5 => xl_l ((xu_u s5 16 0 b4)) (fun s6 => xp_b (fm_wordAt (((s6 13 1) + (14 : Int32)) + ((2 : Int32) * (1 : Int32))) (0 : Int32) s6) (fun b7 s8 => xl_l ((xu_u s8 16 1 b7)) (fun s9 => xp_b (fm_wordAt (((s9 13 1) + (14 : Int32)) + ((2 : Int32) * (2 : Int32))) (0 : Int32) s9) (fun b10 s11 => xl_l ((xu_u s11 16 2 b10)) (fun s12 => xp_b (fm_wordAt (((s12 13 1) + (14 : Int32)) + ((2 : Int32) * (3 : Int32))) (0 : Int32) s12) (fun b13 s14 => xl_l ((xu_u s14 16 3 b13)) (fun s15 => xp_b (fm_wordAt (((s15 13 1) + (14 : Int32)) + ((2 : Int32) * (4 : Int32))) (0 : Int32) s15) (fun b16 s17 => xl_l ((xu_u s17 16 4 b16)) (fun s18 => xp_b (fm_wordAt (((s18 13 1) + (14 : Int32)) + ((2 : Int32) * (5 : Int32))) (0 : Int32) s18) (fun b19 s20 => xl_l ((xu_u s20 16 5 b19)) (fun s21 => xp_b (fm_wordAt (((s21 13 1) + (14 : Int32)) + ((2 : Int32) * (6 : Int32))) (0 : Int32) s21) (fun b22 s23 => xl_l ((xu_u s23 16 6 b22)) (fun s24 => xp_b (fm_wordAt (((s24 13 1) + (14 : Int32)) + ((2 : Int32) * (7 : Int32))) (0 : Int32) s24) (fun b25 s26 => xl_l ((xu_u s26 16 7 b25)) (fun s27 => xp_b (fr_saveState a1 s27) (fun b28 s29 => xp_b (fr_markTasks a1 s29) (fun b30 s31 => xl_l ((xu_u s31 3 7 (fr_codeOf (s31 13 0) s31))) (fun s32 => xl_l ((xu_u s32 3 8 (s32 13 1))) (fun s33 => xl_l ((xu_u s33 3 4 (s33 16 0))) (fun s34 => xl_l ((xu_u s34 3 5 (((s34 16 1) &&& (3 : Int32)) ||| (if a1 = (1 : Int32) then (2 : Int32) else (0 : Int32))))) (fun s35 => xl_l ((xu_u s35 3 3 (s35 16 2))) (fun s36 => xl_l ((xu_u s36 3 6 ((s36 16 6) &&& (3 : Int32)))) (fun s37 => xl_l ((xu_u s37 3 9 ((s37 16 7) &&& (31 : Int32)))) (fun s38 => xp_b (fr_takeSegment (0 : Int32) (s38 16 3) s38) (fun b39 s40 => xp_b (fr_takeSegment (1 : Int32) (s40 16 4) s40) (fun b41 s42 => xp_b (fr_takeSegment (2 : Int32) (s42 16 5) s42) (fun b43 s44 => (some (), s44)))))))))))))))))))))))))))))))
set_option maxRecDepth 100000 in
set_option maxHeartbeats 4000000 in
theorem mr_switchTask {l : Launch} {N n u : Nat} {a1 : Int32} {σ : xs_S} (hl : l.stackTraces = false) (hn : 29 ≤ n) (hJ : jx_J σ) : xm_m (xk_k N) l tr_switchTask [.ref 1, .int a1] (n, u, σ, xr_0) (xe_t eu_u n u (fr_switchTask a1 σ)) := by
  refine xm_of hl ok_r_switchTask (Nat.le_of_ble_eq_true rfl) ?_
  show xw_w (xk_k N) l tr_switchTask 0 [some (.ref 1), some (.int a1), none, none] [] (n, u, σ, xr_0) (xe_t eu_u n u (fr_switchTask a1 σ))
  unfold fr_switchTask
  refine xw_aload0 dr_switchTask_0 ?_
  refine xw_getR dr_switchTask_1 fl_r_38 (xl_n hn (by decide)) rfl r_1_4 ?_
  refine xw_getI dr_switchTask_4 fl_r_179 (by decide) (xl_n hn (by decide)) rfl ?_
  refine xw_bipush dr_switchTask_7 kb_6 ?_
  refine xw_icmp_ne_mi (J := 17) (a := (1 : Int32)) (b := (0 : Int32)) dr_switchTask_9 rfl (fun _ E' k' => ?_) (fun _ E' k' => ?_) ?_
  · refine xw_iconst dr_switchTask_16 ki_0 ?_
    exact k'
  · refine xw_iconst dr_switchTask_12 ki_1 ?_
    refine xw_goto dr_switchTask_13 rfl ?_
    exact k'
  refine xw_iload1 dr_switchTask_17 ?_
  refine xw_iconst dr_switchTask_18 ki_2 ?_
  refine xw_icmp_ne_mi (J := 27) (a := (1 : Int32)) (b := (0 : Int32)) dr_switchTask_19 rfl (fun _ E' k' => ?_) (fun _ E' k' => ?_) ?_
  · refine xw_iconst dr_switchTask_26 ki_0 ?_
    exact k'
  · refine xw_iconst dr_switchTask_22 ki_1 ?_
    refine xw_goto dr_switchTask_23 rfl ?_
    exact k'
  refine xw_icmp_ne_mi (J := 35) (a := (1 : Int32)) (b := (0 : Int32)) dr_switchTask_27 rfl (fun _ E' k' => ?_) (fun _ E' k' => ?_) ?_
  · refine xw_iconst dr_switchTask_34 ki_0 ?_
    exact k'
  · refine xw_iconst dr_switchTask_30 ki_1 ?_
    refine xw_goto dr_switchTask_31 rfl ?_
    exact k'
  refine xw_li (fun v1 e_v1 => ?_)
  refine xw_istore2 dr_switchTask_35 (Nat.le_of_ble_eq_true rfl) rfl ?_
  refine xw_aload0 dr_switchTask_36 ?_
  refine xw_getR dr_switchTask_37 fl_r_10 (xl_n hn (by decide)) rfl r_1_0 ?_
  refine xw_iload2 dr_switchTask_40 ?_
  refine xw_if_ne_mi (J := 49) (a := (1 : Int32)) (b := (0 : Int32)) dr_switchTask_41 rfl (fun _ E' k' => ?_) (fun _ E' k' => ?_) ?_
  · refine xw_iconst dr_switchTask_48 ki_0 ?_
    exact k'
  · refine xw_iconst dr_switchTask_44 ki_1 ?_
    refine xw_goto dr_switchTask_45 rfl ?_
    exact k'
  refine xw_bipush dr_switchTask_49 kb_13 ?_
  refine xw_aload0 dr_switchTask_51 ?_
  refine xw_getR dr_switchTask_52 fl_r_38 (xl_n hn (by decide)) rfl r_1_4 ?_
  refine xw_getI dr_switchTask_55 fl_r_142 (by decide) (xl_n hn (by decide)) rfl ?_
  refine xw_cVi dr_switchTask_58 (lk_r_switchTask_58) ok_r_codeOf (mr_codeOf hl hn) ⟨Nat.le_of_ble_eq_true rfl, Nat.le_of_ble_eq_true rfl⟩ ?_
  refine xw_cTu dr_switchTask_61 (lk_r_switchTask_61 (xl_n hn (by decide)) rfl) ok_x_refuse (mx_refuse hl hn) ⟨Nat.le_of_ble_eq_true rfl, Nat.le_of_ble_eq_true rfl⟩ rfl (fun b2 s3 h_s3 => ?_)
  have hJ_s3 : jx_J s3 := xj_o (jx_refuse hJ) h_s3
  refine xw_iconst dr_switchTask_64 ki_0 ?_
  refine xw_istore3 dr_switchTask_65 (Nat.le_of_ble_eq_true rfl) rfl ?_
  refine xw_iload3 dr_switchTask_66 ?_
  refine xw_bipush dr_switchTask_67 kb_8 ?_
  refine xw_icmp_ge_f dr_switchTask_69 rfl (by decide) ?_
  refine xw_aload0 dr_switchTask_72 ?_
  refine xw_getR dr_switchTask_73 fl_r_48 (xl_n hn (by decide)) rfl r_1_7 ?_
  refine xw_iload3 dr_switchTask_76 ?_
  refine xw_aload0 dr_switchTask_77 ?_
  refine xw_getR dr_switchTask_78 fl_r_31 (xl_n hn (by decide)) rfl r_1_3 ?_
  refine xw_aload0 dr_switchTask_81 ?_
  refine xw_getR dr_switchTask_82 fl_r_38 (xl_n hn (by decide)) rfl r_1_4 ?_
  refine xw_getI dr_switchTask_85 fl_r_173 (by decide) (xl_n hn (by decide)) rfl ?_
  refine xw_bipush dr_switchTask_88 kb_14 ?_
  refine xw_iadd dr_switchTask_90 ?_
  refine xw_iconst dr_switchTask_91 ki_2 ?_
  refine xw_iload3 dr_switchTask_92 ?_
  refine xw_imul dr_switchTask_93 ?_
  refine xw_iadd dr_switchTask_94 ?_
  refine xw_iconst dr_switchTask_95 ki_0 ?_
  refine xw_cTi dr_switchTask_96 (lk_r_switchTask_96 (xl_n hn (by decide)) rfl) ok_m_wordAt (mm_wordAt hl hn hJ_s3) ⟨Nat.le_of_ble_eq_true rfl, Nat.le_of_ble_eq_true rfl⟩ rfl (fun b4 s5 h_s5 => ?_)
  have hJ_s5 : jx_J s5 := xj_o (jm_wordAt hJ_s3) h_s5
  refine xw_iast dr_switchTask_99 (by decide) (xl_n hn (by decide)) rfl vc_0_8 cn_0 ?_
  refine xw_lw (fun s6 e_s6 => ?_)
  have hJ_s6 : jx_J s6 := by rw [e_s6]; exact (jx_u hJ_s5 (by decide))
  refine xw_iinc3 dr_switchTask_100 ic_0_1 (Nat.le_of_ble_eq_true rfl) rfl ?_
  refine xw_goto dr_switchTask_103 rfl ?_
  refine xw_iload3 dr_switchTask_66 ?_
  refine xw_bipush dr_switchTask_67 kb_8 ?_
  refine xw_icmp_ge_f dr_switchTask_69 rfl (by decide) ?_
  refine xw_aload0 dr_switchTask_72 ?_
  refine xw_getR dr_switchTask_73 fl_r_48 (xl_n hn (by decide)) rfl r_1_7 ?_
  refine xw_iload3 dr_switchTask_76 ?_
  refine xw_aload0 dr_switchTask_77 ?_
  refine xw_getR dr_switchTask_78 fl_r_31 (xl_n hn (by decide)) rfl r_1_3 ?_
  refine xw_aload0 dr_switchTask_81 ?_
  refine xw_getR dr_switchTask_82 fl_r_38 (xl_n hn (by decide)) rfl r_1_4 ?_
  refine xw_getI dr_switchTask_85 fl_r_173 (by decide) (xl_n hn (by decide)) rfl ?_
  refine xw_bipush dr_switchTask_88 kb_14 ?_
  refine xw_iadd dr_switchTask_90 ?_
  refine xw_iconst dr_switchTask_91 ki_2 ?_
  refine xw_iload3 dr_switchTask_92 ?_
  refine xw_imul dr_switchTask_93 ?_
  refine xw_iadd dr_switchTask_94 ?_
  refine xw_iconst dr_switchTask_95 ki_0 ?_
  refine xw_cTi dr_switchTask_96 (lk_r_switchTask_96 (xl_n hn (by decide)) rfl) ok_m_wordAt (mm_wordAt hl hn hJ_s6) ⟨Nat.le_of_ble_eq_true rfl, Nat.le_of_ble_eq_true rfl⟩ rfl (fun b7 s8 h_s8 => ?_)
  have hJ_s8 : jx_J s8 := xj_o (jm_wordAt hJ_s6) h_s8
  refine xw_iast dr_switchTask_99 (by decide) (xl_n hn (by decide)) rfl vc_1_8 cn_1 ?_
  refine xw_lw (fun s9 e_s9 => ?_)
  have hJ_s9 : jx_J s9 := by rw [e_s9]; exact (jx_u hJ_s8 (by decide))
  refine xw_iinc3 dr_switchTask_100 ic_1_1 (Nat.le_of_ble_eq_true rfl) rfl ?_
  refine xw_goto dr_switchTask_103 rfl ?_
  refine xw_iload3 dr_switchTask_66 ?_
  refine xw_bipush dr_switchTask_67 kb_8 ?_
  refine xw_icmp_ge_f dr_switchTask_69 rfl (by decide) ?_
  refine xw_aload0 dr_switchTask_72 ?_
  refine xw_getR dr_switchTask_73 fl_r_48 (xl_n hn (by decide)) rfl r_1_7 ?_
  refine xw_iload3 dr_switchTask_76 ?_
  refine xw_aload0 dr_switchTask_77 ?_
  refine xw_getR dr_switchTask_78 fl_r_31 (xl_n hn (by decide)) rfl r_1_3 ?_
  refine xw_aload0 dr_switchTask_81 ?_
  refine xw_getR dr_switchTask_82 fl_r_38 (xl_n hn (by decide)) rfl r_1_4 ?_
  refine xw_getI dr_switchTask_85 fl_r_173 (by decide) (xl_n hn (by decide)) rfl ?_
  refine xw_bipush dr_switchTask_88 kb_14 ?_
  refine xw_iadd dr_switchTask_90 ?_
  refine xw_iconst dr_switchTask_91 ki_2 ?_
  refine xw_iload3 dr_switchTask_92 ?_
  refine xw_imul dr_switchTask_93 ?_
  refine xw_iadd dr_switchTask_94 ?_
  refine xw_iconst dr_switchTask_95 ki_0 ?_
  refine xw_cTi dr_switchTask_96 (lk_r_switchTask_96 (xl_n hn (by decide)) rfl) ok_m_wordAt (mm_wordAt hl hn hJ_s9) ⟨Nat.le_of_ble_eq_true rfl, Nat.le_of_ble_eq_true rfl⟩ rfl (fun b10 s11 h_s11 => ?_)
  have hJ_s11 : jx_J s11 := xj_o (jm_wordAt hJ_s9) h_s11
  refine xw_iast dr_switchTask_99 (by decide) (xl_n hn (by decide)) rfl vc_2_8 cn_2 ?_
  refine xw_lw (fun s12 e_s12 => ?_)
  have hJ_s12 : jx_J s12 := by rw [e_s12]; exact (jx_u hJ_s11 (by decide))
  refine xw_iinc3 dr_switchTask_100 ic_2_1 (Nat.le_of_ble_eq_true rfl) rfl ?_
  refine xw_goto dr_switchTask_103 rfl ?_
  refine xw_iload3 dr_switchTask_66 ?_
  refine xw_bipush dr_switchTask_67 kb_8 ?_
  refine xw_icmp_ge_f dr_switchTask_69 rfl (by decide) ?_
  refine xw_aload0 dr_switchTask_72 ?_
  refine xw_getR dr_switchTask_73 fl_r_48 (xl_n hn (by decide)) rfl r_1_7 ?_
  refine xw_iload3 dr_switchTask_76 ?_
  refine xw_aload0 dr_switchTask_77 ?_
  refine xw_getR dr_switchTask_78 fl_r_31 (xl_n hn (by decide)) rfl r_1_3 ?_
  refine xw_aload0 dr_switchTask_81 ?_
  refine xw_getR dr_switchTask_82 fl_r_38 (xl_n hn (by decide)) rfl r_1_4 ?_
  refine xw_getI dr_switchTask_85 fl_r_173 (by decide) (xl_n hn (by decide)) rfl ?_
  refine xw_bipush dr_switchTask_88 kb_14 ?_
  refine xw_iadd dr_switchTask_90 ?_
  refine xw_iconst dr_switchTask_91 ki_2 ?_
  refine xw_iload3 dr_switchTask_92 ?_
  refine xw_imul dr_switchTask_93 ?_
  refine xw_iadd dr_switchTask_94 ?_
  refine xw_iconst dr_switchTask_95 ki_0 ?_
  refine xw_cTi dr_switchTask_96 (lk_r_switchTask_96 (xl_n hn (by decide)) rfl) ok_m_wordAt (mm_wordAt hl hn hJ_s12) ⟨Nat.le_of_ble_eq_true rfl, Nat.le_of_ble_eq_true rfl⟩ rfl (fun b13 s14 h_s14 => ?_)
  have hJ_s14 : jx_J s14 := xj_o (jm_wordAt hJ_s12) h_s14
  refine xw_iast dr_switchTask_99 (by decide) (xl_n hn (by decide)) rfl vc_3_8 cn_3 ?_
  refine xw_lw (fun s15 e_s15 => ?_)
  have hJ_s15 : jx_J s15 := by rw [e_s15]; exact (jx_u hJ_s14 (by decide))
  refine xw_iinc3 dr_switchTask_100 ic_3_1 (Nat.le_of_ble_eq_true rfl) rfl ?_
  refine xw_goto dr_switchTask_103 rfl ?_
  refine xw_iload3 dr_switchTask_66 ?_
  refine xw_bipush dr_switchTask_67 kb_8 ?_
  refine xw_icmp_ge_f dr_switchTask_69 rfl (by decide) ?_
  refine xw_aload0 dr_switchTask_72 ?_
  refine xw_getR dr_switchTask_73 fl_r_48 (xl_n hn (by decide)) rfl r_1_7 ?_
  refine xw_iload3 dr_switchTask_76 ?_
  refine xw_aload0 dr_switchTask_77 ?_
  refine xw_getR dr_switchTask_78 fl_r_31 (xl_n hn (by decide)) rfl r_1_3 ?_
  refine xw_aload0 dr_switchTask_81 ?_
  refine xw_getR dr_switchTask_82 fl_r_38 (xl_n hn (by decide)) rfl r_1_4 ?_
  refine xw_getI dr_switchTask_85 fl_r_173 (by decide) (xl_n hn (by decide)) rfl ?_
  refine xw_bipush dr_switchTask_88 kb_14 ?_
  refine xw_iadd dr_switchTask_90 ?_
  refine xw_iconst dr_switchTask_91 ki_2 ?_
  refine xw_iload3 dr_switchTask_92 ?_
  refine xw_imul dr_switchTask_93 ?_
  refine xw_iadd dr_switchTask_94 ?_
  refine xw_iconst dr_switchTask_95 ki_0 ?_
  refine xw_cTi dr_switchTask_96 (lk_r_switchTask_96 (xl_n hn (by decide)) rfl) ok_m_wordAt (mm_wordAt hl hn hJ_s15) ⟨Nat.le_of_ble_eq_true rfl, Nat.le_of_ble_eq_true rfl⟩ rfl (fun b16 s17 h_s17 => ?_)
  have hJ_s17 : jx_J s17 := xj_o (jm_wordAt hJ_s15) h_s17
  refine xw_iast dr_switchTask_99 (by decide) (xl_n hn (by decide)) rfl vc_4_8 cn_4 ?_
  refine xw_lw (fun s18 e_s18 => ?_)
  have hJ_s18 : jx_J s18 := by rw [e_s18]; exact (jx_u hJ_s17 (by decide))
  refine xw_iinc3 dr_switchTask_100 ic_4_1 (Nat.le_of_ble_eq_true rfl) rfl ?_
  refine xw_goto dr_switchTask_103 rfl ?_
  refine xw_iload3 dr_switchTask_66 ?_
  refine xw_bipush dr_switchTask_67 kb_8 ?_
  refine xw_icmp_ge_f dr_switchTask_69 rfl (by decide) ?_
  refine xw_aload0 dr_switchTask_72 ?_
  refine xw_getR dr_switchTask_73 fl_r_48 (xl_n hn (by decide)) rfl r_1_7 ?_
  refine xw_iload3 dr_switchTask_76 ?_
  refine xw_aload0 dr_switchTask_77 ?_
  refine xw_getR dr_switchTask_78 fl_r_31 (xl_n hn (by decide)) rfl r_1_3 ?_
  refine xw_aload0 dr_switchTask_81 ?_
  refine xw_getR dr_switchTask_82 fl_r_38 (xl_n hn (by decide)) rfl r_1_4 ?_
  refine xw_getI dr_switchTask_85 fl_r_173 (by decide) (xl_n hn (by decide)) rfl ?_
  refine xw_bipush dr_switchTask_88 kb_14 ?_
  refine xw_iadd dr_switchTask_90 ?_
  refine xw_iconst dr_switchTask_91 ki_2 ?_
  refine xw_iload3 dr_switchTask_92 ?_
  refine xw_imul dr_switchTask_93 ?_
  refine xw_iadd dr_switchTask_94 ?_
  refine xw_iconst dr_switchTask_95 ki_0 ?_
  refine xw_cTi dr_switchTask_96 (lk_r_switchTask_96 (xl_n hn (by decide)) rfl) ok_m_wordAt (mm_wordAt hl hn hJ_s18) ⟨Nat.le_of_ble_eq_true rfl, Nat.le_of_ble_eq_true rfl⟩ rfl (fun b19 s20 h_s20 => ?_)
  have hJ_s20 : jx_J s20 := xj_o (jm_wordAt hJ_s18) h_s20
  refine xw_iast dr_switchTask_99 (by decide) (xl_n hn (by decide)) rfl vc_5_8 cn_5 ?_
  refine xw_lw (fun s21 e_s21 => ?_)
  have hJ_s21 : jx_J s21 := by rw [e_s21]; exact (jx_u hJ_s20 (by decide))
  refine xw_iinc3 dr_switchTask_100 ic_5_1 (Nat.le_of_ble_eq_true rfl) rfl ?_
  refine xw_goto dr_switchTask_103 rfl ?_
  refine xw_iload3 dr_switchTask_66 ?_
  refine xw_bipush dr_switchTask_67 kb_8 ?_
  refine xw_icmp_ge_f dr_switchTask_69 rfl (by decide) ?_
  refine xw_aload0 dr_switchTask_72 ?_
  refine xw_getR dr_switchTask_73 fl_r_48 (xl_n hn (by decide)) rfl r_1_7 ?_
  refine xw_iload3 dr_switchTask_76 ?_
  refine xw_aload0 dr_switchTask_77 ?_
  refine xw_getR dr_switchTask_78 fl_r_31 (xl_n hn (by decide)) rfl r_1_3 ?_
  refine xw_aload0 dr_switchTask_81 ?_
  refine xw_getR dr_switchTask_82 fl_r_38 (xl_n hn (by decide)) rfl r_1_4 ?_
  refine xw_getI dr_switchTask_85 fl_r_173 (by decide) (xl_n hn (by decide)) rfl ?_
  refine xw_bipush dr_switchTask_88 kb_14 ?_
  refine xw_iadd dr_switchTask_90 ?_
  refine xw_iconst dr_switchTask_91 ki_2 ?_
  refine xw_iload3 dr_switchTask_92 ?_
  refine xw_imul dr_switchTask_93 ?_
  refine xw_iadd dr_switchTask_94 ?_
  refine xw_iconst dr_switchTask_95 ki_0 ?_
  refine xw_cTi dr_switchTask_96 (lk_r_switchTask_96 (xl_n hn (by decide)) rfl) ok_m_wordAt (mm_wordAt hl hn hJ_s21) ⟨Nat.le_of_ble_eq_true rfl, Nat.le_of_ble_eq_true rfl⟩ rfl (fun b22 s23 h_s23 => ?_)
  have hJ_s23 : jx_J s23 := xj_o (jm_wordAt hJ_s21) h_s23
  refine xw_iast dr_switchTask_99 (by decide) (xl_n hn (by decide)) rfl vc_6_8 cn_6 ?_
  refine xw_lw (fun s24 e_s24 => ?_)
  have hJ_s24 : jx_J s24 := by rw [e_s24]; exact (jx_u hJ_s23 (by decide))
  refine xw_iinc3 dr_switchTask_100 ic_6_1 (Nat.le_of_ble_eq_true rfl) rfl ?_
  refine xw_goto dr_switchTask_103 rfl ?_
  refine xw_iload3 dr_switchTask_66 ?_
  refine xw_bipush dr_switchTask_67 kb_8 ?_
  refine xw_icmp_ge_f dr_switchTask_69 rfl (by decide) ?_
  refine xw_aload0 dr_switchTask_72 ?_
  refine xw_getR dr_switchTask_73 fl_r_48 (xl_n hn (by decide)) rfl r_1_7 ?_
  refine xw_iload3 dr_switchTask_76 ?_
  refine xw_aload0 dr_switchTask_77 ?_
  refine xw_getR dr_switchTask_78 fl_r_31 (xl_n hn (by decide)) rfl r_1_3 ?_
  refine xw_aload0 dr_switchTask_81 ?_
  refine xw_getR dr_switchTask_82 fl_r_38 (xl_n hn (by decide)) rfl r_1_4 ?_
  refine xw_getI dr_switchTask_85 fl_r_173 (by decide) (xl_n hn (by decide)) rfl ?_
  refine xw_bipush dr_switchTask_88 kb_14 ?_
  refine xw_iadd dr_switchTask_90 ?_
  refine xw_iconst dr_switchTask_91 ki_2 ?_
  refine xw_iload3 dr_switchTask_92 ?_
  refine xw_imul dr_switchTask_93 ?_
  refine xw_iadd dr_switchTask_94 ?_
  refine xw_iconst dr_switchTask_95 ki_0 ?_
  refine xw_cTi dr_switchTask_96 (lk_r_switchTask_96 (xl_n hn (by decide)) rfl) ok_m_wordAt (mm_wordAt hl hn hJ_s24) ⟨Nat.le_of_ble_eq_true rfl, Nat.le_of_ble_eq_true rfl⟩ rfl (fun b25 s26 h_s26 => ?_)
  have hJ_s26 : jx_J s26 := xj_o (jm_wordAt hJ_s24) h_s26
  refine xw_iast dr_switchTask_99 (by decide) (xl_n hn (by decide)) rfl vc_7_8 cn_7 ?_
  refine xw_lw (fun s27 e_s27 => ?_)
  have hJ_s27 : jx_J s27 := by rw [e_s27]; exact (jx_u hJ_s26 (by decide))
  refine xw_iinc3 dr_switchTask_100 ic_7_1 (Nat.le_of_ble_eq_true rfl) rfl ?_
  refine xw_goto dr_switchTask_103 rfl ?_
  refine xw_iload3 dr_switchTask_66 ?_
  refine xw_bipush dr_switchTask_67 kb_8 ?_
  refine xw_icmp_ge_t dr_switchTask_69 rfl (by decide) ?_
  refine xw_aload0 dr_switchTask_106 ?_
  refine xw_iload1 dr_switchTask_107 ?_
  refine xw_cTu dr_switchTask_108 (lk_r_switchTask_108 (xl_n hn (by decide)) rfl) ok_r_saveState (mr_saveState hl hn hJ_s27) ⟨Nat.le_of_ble_eq_true rfl, Nat.le_of_ble_eq_true rfl⟩ rfl (fun b28 s29 h_s29 => ?_)
  have hJ_s29 : jx_J s29 := xj_o (jr_saveState hJ_s27) h_s29
  refine xw_aload0 dr_switchTask_111 ?_
  refine xw_iload1 dr_switchTask_112 ?_
  refine xw_cTu dr_switchTask_113 (lk_r_switchTask_113 (xl_n hn (by decide)) rfl) ok_r_markTasks (mr_markTasks hl hn hJ_s29) ⟨Nat.le_of_ble_eq_true rfl, Nat.le_of_ble_eq_true rfl⟩ rfl (fun b30 s31 h_s31 => ?_)
  have hJ_s31 : jx_J s31 := xj_o (jr_markTasks hJ_s29) h_s31
  refine xw_aload0 dr_switchTask_116 ?_
  refine xw_getR dr_switchTask_117 fl_r_19 (xl_n hn (by decide)) rfl r_1_1 ?_
  refine xw_aload0 dr_switchTask_120 ?_
  refine xw_getR dr_switchTask_121 fl_r_38 (xl_n hn (by decide)) rfl r_1_4 ?_
  refine xw_getI dr_switchTask_124 fl_r_142 (by decide) (xl_n hn (by decide)) rfl ?_
  refine xw_cVi dr_switchTask_127 (lk_r_switchTask_127) ok_r_codeOf (mr_codeOf hl hn) ⟨Nat.le_of_ble_eq_true rfl, Nat.le_of_ble_eq_true rfl⟩ ?_
  refine xw_putI dr_switchTask_130 fl_r_160 nf_3_7 (by decide) (xl_n hn (by decide)) rfl ?_
  refine xw_lw (fun s32 e_s32 => ?_)
  have hJ_s32 : jx_J s32 := by rw [e_s32]; exact (jx_u hJ_s31 (by decide))
  refine xw_aload0 dr_switchTask_133 ?_
  refine xw_getR dr_switchTask_134 fl_r_19 (xl_n hn (by decide)) rfl r_1_1 ?_
  refine xw_aload0 dr_switchTask_137 ?_
  refine xw_getR dr_switchTask_138 fl_r_38 (xl_n hn (by decide)) rfl r_1_4 ?_
  refine xw_getI dr_switchTask_141 fl_r_173 (by decide) (xl_n hn (by decide)) rfl ?_
  refine xw_putI dr_switchTask_144 fl_r_163 nf_3_8 (by decide) (xl_n hn (by decide)) rfl ?_
  refine xw_lw (fun s33 e_s33 => ?_)
  have hJ_s33 : jx_J s33 := by rw [e_s33]; exact (jx_u hJ_s32 (by decide))
  refine xw_aload0 dr_switchTask_147 ?_
  refine xw_getR dr_switchTask_148 fl_r_19 (xl_n hn (by decide)) rfl r_1_1 ?_
  refine xw_aload0 dr_switchTask_151 ?_
  refine xw_getR dr_switchTask_152 fl_r_48 (xl_n hn (by decide)) rfl r_1_7 ?_
  refine xw_iconst dr_switchTask_155 ki_0 ?_
  refine xw_iald dr_switchTask_156 (xl_n hn (by decide)) rfl vc_0_8 cn_0 ?_
  refine xw_putI dr_switchTask_157 fl_r_154 nf_3_4 (by decide) (xl_n hn (by decide)) rfl ?_
  refine xw_lw (fun s34 e_s34 => ?_)
  have hJ_s34 : jx_J s34 := by rw [e_s34]; exact (jx_u hJ_s33 (by decide))
  refine xw_aload0 dr_switchTask_160 ?_
  refine xw_getR dr_switchTask_161 fl_r_19 (xl_n hn (by decide)) rfl r_1_1 ?_
  refine xw_aload0 dr_switchTask_164 ?_
  refine xw_getR dr_switchTask_165 fl_r_48 (xl_n hn (by decide)) rfl r_1_7 ?_
  refine xw_iconst dr_switchTask_168 ki_1 ?_
  refine xw_iald dr_switchTask_169 (xl_n hn (by decide)) rfl vc_1_8 cn_1 ?_
  refine xw_iconst dr_switchTask_170 ki_3 ?_
  refine xw_iand dr_switchTask_171 ?_
  refine xw_iload1 dr_switchTask_172 ?_
  refine xw_iconst dr_switchTask_173 ki_1 ?_
  refine xw_icmp_ne_mi (J := 182) (a := (2 : Int32)) (b := (0 : Int32)) dr_switchTask_174 rfl (fun _ E' k' => ?_) (fun _ E' k' => ?_) ?_
  · refine xw_iconst dr_switchTask_181 ki_0 ?_
    exact k'
  · refine xw_iconst dr_switchTask_177 ki_2 ?_
    refine xw_goto dr_switchTask_178 rfl ?_
    exact k'
  refine xw_ior dr_switchTask_182 ?_
  refine xw_putI dr_switchTask_183 fl_r_133 nf_3_5 (by decide) (xl_n hn (by decide)) rfl ?_
  refine xw_lw (fun s35 e_s35 => ?_)
  have hJ_s35 : jx_J s35 := by rw [e_s35]; exact (jx_u hJ_s34 (by decide))
  refine xw_aload0 dr_switchTask_186 ?_
  refine xw_getR dr_switchTask_187 fl_r_19 (xl_n hn (by decide)) rfl r_1_1 ?_
  refine xw_aload0 dr_switchTask_190 ?_
  refine xw_getR dr_switchTask_191 fl_r_48 (xl_n hn (by decide)) rfl r_1_7 ?_
  refine xw_iconst dr_switchTask_194 ki_2 ?_
  refine xw_iald dr_switchTask_195 (xl_n hn (by decide)) rfl vc_2_8 cn_2 ?_
  refine xw_putI dr_switchTask_196 fl_r_151 nf_3_3 (by decide) (xl_n hn (by decide)) rfl ?_
  refine xw_lw (fun s36 e_s36 => ?_)
  have hJ_s36 : jx_J s36 := by rw [e_s36]; exact (jx_u hJ_s35 (by decide))
  refine xw_aload0 dr_switchTask_199 ?_
  refine xw_getR dr_switchTask_200 fl_r_19 (xl_n hn (by decide)) rfl r_1_1 ?_
  refine xw_aload0 dr_switchTask_203 ?_
  refine xw_getR dr_switchTask_204 fl_r_48 (xl_n hn (by decide)) rfl r_1_7 ?_
  refine xw_bipush dr_switchTask_207 kb_6 ?_
  refine xw_iald dr_switchTask_209 (xl_n hn (by decide)) rfl vc_6_8 cn_6 ?_
  refine xw_iconst dr_switchTask_210 ki_3 ?_
  refine xw_iand dr_switchTask_211 ?_
  refine xw_putI dr_switchTask_212 fl_r_157 nf_3_6 (by decide) (xl_n hn (by decide)) rfl ?_
  refine xw_lw (fun s37 e_s37 => ?_)
  have hJ_s37 : jx_J s37 := by rw [e_s37]; exact (jx_u hJ_s36 (by decide))
  refine xw_aload0 dr_switchTask_215 ?_
  refine xw_getR dr_switchTask_216 fl_r_19 (xl_n hn (by decide)) rfl r_1_1 ?_
  refine xw_aload0 dr_switchTask_219 ?_
  refine xw_getR dr_switchTask_220 fl_r_48 (xl_n hn (by decide)) rfl r_1_7 ?_
  refine xw_bipush dr_switchTask_223 kb_7 ?_
  refine xw_iald dr_switchTask_225 (xl_n hn (by decide)) rfl vc_7_8 cn_7 ?_
  refine xw_bipush dr_switchTask_226 kb_31 ?_
  refine xw_iand dr_switchTask_228 ?_
  refine xw_putI dr_switchTask_229 fl_r_77 nf_3_9 (by decide) (xl_n hn (by decide)) rfl ?_
  refine xw_lw (fun s38 e_s38 => ?_)
  have hJ_s38 : jx_J s38 := by rw [e_s38]; exact (jx_p hJ_s37)
  refine xw_aload0 dr_switchTask_232 ?_
  refine xw_iconst dr_switchTask_233 ki_0 ?_
  refine xw_aload0 dr_switchTask_234 ?_
  refine xw_getR dr_switchTask_235 fl_r_48 (xl_n hn (by decide)) rfl r_1_7 ?_
  refine xw_iconst dr_switchTask_238 ki_3 ?_
  refine xw_iald dr_switchTask_239 (xl_n hn (by decide)) rfl vc_3_8 cn_3 ?_
  refine xw_cTu dr_switchTask_240 (lk_r_switchTask_240 (xl_n hn (by decide)) rfl) ok_r_takeSegment (mr_takeSegment hl hn hJ_s38) ⟨Nat.le_of_ble_eq_true rfl, Nat.le_of_ble_eq_true rfl⟩ rfl (fun b39 s40 h_s40 => ?_)
  have hJ_s40 : jx_J s40 := xj_o (jr_takeSegment hJ_s38) h_s40
  refine xw_aload0 dr_switchTask_243 ?_
  refine xw_iconst dr_switchTask_244 ki_1 ?_
  refine xw_aload0 dr_switchTask_245 ?_
  refine xw_getR dr_switchTask_246 fl_r_48 (xl_n hn (by decide)) rfl r_1_7 ?_
  refine xw_iconst dr_switchTask_249 ki_4 ?_
  refine xw_iald dr_switchTask_250 (xl_n hn (by decide)) rfl vc_4_8 cn_4 ?_
  refine xw_cTu dr_switchTask_251 (lk_r_switchTask_251 (xl_n hn (by decide)) rfl) ok_r_takeSegment (mr_takeSegment hl hn hJ_s40) ⟨Nat.le_of_ble_eq_true rfl, Nat.le_of_ble_eq_true rfl⟩ rfl (fun b41 s42 h_s42 => ?_)
  have hJ_s42 : jx_J s42 := xj_o (jr_takeSegment hJ_s40) h_s42
  refine xw_aload0 dr_switchTask_254 ?_
  refine xw_iconst dr_switchTask_255 ki_2 ?_
  refine xw_aload0 dr_switchTask_256 ?_
  refine xw_getR dr_switchTask_257 fl_r_48 (xl_n hn (by decide)) rfl r_1_7 ?_
  refine xw_iconst dr_switchTask_260 ki_5 ?_
  refine xw_iald dr_switchTask_261 (xl_n hn (by decide)) rfl vc_5_8 cn_5 ?_
  refine xw_cTu dr_switchTask_262 (lk_r_switchTask_262 (xl_n hn (by decide)) rfl) ok_r_takeSegment (mr_takeSegment hl hn hJ_s42) ⟨Nat.le_of_ble_eq_true rfl, Nat.le_of_ble_eq_true rfl⟩ rfl (fun b43 s44 h_s44 => ?_)
  have hJ_s44 : jx_J s44 := xj_o (jr_takeSegment hJ_s42) h_s44
  exact xw_vret dr_switchTask_265 rfl
theorem jr_switchTask {a1 : Int32} {σ : xs_S} (hJ : jx_J σ) : jx_J (fr_switchTask a1 σ).2 := by
  unfold fr_switchTask
  refine xj_l (fun v1 e_v1 => ?_)
  refine xj_b (jx_refuse hJ) (fun b2 s3 h_s3 hJ_s3 => ?_)
  refine xj_b (jm_wordAt hJ_s3) (fun b4 s5 h_s5 hJ_s5 => ?_)
  refine xj_l (fun s6 e_s6 => ?_)
  have hJ_s6 : jx_J s6 := by rw [e_s6]; exact (jx_u hJ_s5 (by decide))
  refine xj_b (jm_wordAt hJ_s6) (fun b7 s8 h_s8 hJ_s8 => ?_)
  refine xj_l (fun s9 e_s9 => ?_)
  have hJ_s9 : jx_J s9 := by rw [e_s9]; exact (jx_u hJ_s8 (by decide))
  refine xj_b (jm_wordAt hJ_s9) (fun b10 s11 h_s11 hJ_s11 => ?_)
  refine xj_l (fun s12 e_s12 => ?_)
  have hJ_s12 : jx_J s12 := by rw [e_s12]; exact (jx_u hJ_s11 (by decide))
  refine xj_b (jm_wordAt hJ_s12) (fun b13 s14 h_s14 hJ_s14 => ?_)
  refine xj_l (fun s15 e_s15 => ?_)
  have hJ_s15 : jx_J s15 := by rw [e_s15]; exact (jx_u hJ_s14 (by decide))
  refine xj_b (jm_wordAt hJ_s15) (fun b16 s17 h_s17 hJ_s17 => ?_)
  refine xj_l (fun s18 e_s18 => ?_)
  have hJ_s18 : jx_J s18 := by rw [e_s18]; exact (jx_u hJ_s17 (by decide))
  refine xj_b (jm_wordAt hJ_s18) (fun b19 s20 h_s20 hJ_s20 => ?_)
  refine xj_l (fun s21 e_s21 => ?_)
  have hJ_s21 : jx_J s21 := by rw [e_s21]; exact (jx_u hJ_s20 (by decide))
  refine xj_b (jm_wordAt hJ_s21) (fun b22 s23 h_s23 hJ_s23 => ?_)
  refine xj_l (fun s24 e_s24 => ?_)
  have hJ_s24 : jx_J s24 := by rw [e_s24]; exact (jx_u hJ_s23 (by decide))
  refine xj_b (jm_wordAt hJ_s24) (fun b25 s26 h_s26 hJ_s26 => ?_)
  refine xj_l (fun s27 e_s27 => ?_)
  have hJ_s27 : jx_J s27 := by rw [e_s27]; exact (jx_u hJ_s26 (by decide))
  refine xj_b (jr_saveState hJ_s27) (fun b28 s29 h_s29 hJ_s29 => ?_)
  refine xj_b (jr_markTasks hJ_s29) (fun b30 s31 h_s31 hJ_s31 => ?_)
  refine xj_l (fun s32 e_s32 => ?_)
  have hJ_s32 : jx_J s32 := by rw [e_s32]; exact (jx_u hJ_s31 (by decide))
  refine xj_l (fun s33 e_s33 => ?_)
  have hJ_s33 : jx_J s33 := by rw [e_s33]; exact (jx_u hJ_s32 (by decide))
  refine xj_l (fun s34 e_s34 => ?_)
  have hJ_s34 : jx_J s34 := by rw [e_s34]; exact (jx_u hJ_s33 (by decide))
  refine xj_l (fun s35 e_s35 => ?_)
  have hJ_s35 : jx_J s35 := by rw [e_s35]; exact (jx_u hJ_s34 (by decide))
  refine xj_l (fun s36 e_s36 => ?_)
  have hJ_s36 : jx_J s36 := by rw [e_s36]; exact (jx_u hJ_s35 (by decide))
  refine xj_l (fun s37 e_s37 => ?_)
  have hJ_s37 : jx_J s37 := by rw [e_s37]; exact (jx_u hJ_s36 (by decide))
  refine xj_l (fun s38 e_s38 => ?_)
  have hJ_s38 : jx_J s38 := by rw [e_s38]; exact (jx_p hJ_s37)
  refine xj_b (jr_takeSegment hJ_s38) (fun b39 s40 h_s40 hJ_s40 => ?_)
  refine xj_b (jr_takeSegment hJ_s40) (fun b41 s42 h_s42 hJ_s42 => ?_)
  refine xj_b (jr_takeSegment hJ_s42) (fun b43 s44 h_s44 hJ_s44 => ?_)
  exact hJ_s44
def fr_passGate (a1 : Int32) (σ : xs_S) : xp_P Unit := xp_b (fr_findTarget a1 σ) (fun b1 s2 => (if a1 = 0 then xp_b (fr_enter 14 (s2 13 1) s2) (fun b4 s5 => (some (), s5)) else (if (fr_leadsInwards s2) = 0 then xp_b (fr_pushReturn (fr_next s2) s2) (fun b7 s8 => xp_b (fr_enter 14 (s8 13 1) s8) (fun b9 s10 => (some (), s10))) else xp_b (fr_findInnerStack s2) (fun b11 s12 => xp_b (fr_changeStack b11 (s12 13 5) s12) (fun b13 s14 => xp_b (fr_pushReturn (fr_next s14) s14) (fun b15 s16 => xp_b (fr_enter 14 (s16 13 1) s16) (fun b17 s18 => (some (), s18))))))))
set_option maxRecDepth 100000 in
set_option maxHeartbeats 4000000 in
theorem mr_passGate {l : Launch} {N n u : Nat} {a1 : Int32} {σ : xs_S} (hl : l.stackTraces = false) (hn : 29 ≤ n) (hJ : jx_J σ) : xm_m (xk_k N) l tr_passGate [.ref 1, .int a1] (n, u, σ, xr_0) (xe_t eu_u n u (fr_passGate a1 σ)) := by
  refine xm_of hl ok_r_passGate (Nat.le_of_ble_eq_true rfl) ?_
  show xw_w (xk_k N) l tr_passGate 0 [some (.ref 1), some (.int a1)] [] (n, u, σ, xr_0) (xe_t eu_u n u (fr_passGate a1 σ))
  unfold fr_passGate
  refine xw_aload0 dr_passGate_0 ?_
  refine xw_iload1 dr_passGate_1 ?_
  refine xw_cTu dr_passGate_2 (lk_r_passGate_2 (xl_n hn (by decide)) rfl) ok_r_findTarget (mr_findTarget hl hn hJ) ⟨Nat.le_of_ble_eq_true rfl, Nat.le_of_ble_eq_true rfl⟩ rfl (fun b1 s2 h_s2 => ?_)
  have hJ_s2 : jx_J s2 := xj_o (jr_findTarget hJ) h_s2
  refine xw_iload1 dr_passGate_5 ?_
  refine xw_if_eq' dr_passGate_6 rfl (fun h3 => ?_) (fun h3 => ?_)
  · refine xw_aload0 dr_passGate_39 ?_
    refine xw_aload0 dr_passGate_40 ?_
    refine xw_getR dr_passGate_41 fl_r_42 (xl_n hn (by decide)) rfl r_1_5 ?_
    refine xw_aload0 dr_passGate_44 ?_
    refine xw_getR dr_passGate_45 fl_r_38 (xl_n hn (by decide)) rfl r_1_4 ?_
    refine xw_getI dr_passGate_48 fl_r_173 (by decide) (xl_n hn (by decide)) rfl ?_
    refine xw_cTu dr_passGate_51 (lk_r_passGate_51 (xl_n hn (by decide)) rfl) ok_r_enter (mr_enter hl hn (by decide) (xl_n hn (by decide)) rfl hJ_s2) ⟨Nat.le_of_ble_eq_true rfl, Nat.le_of_ble_eq_true rfl⟩ rfl (fun b4 s5 h_s5 => ?_)
    have hJ_s5 : jx_J s5 := xj_o (jr_enter hJ_s2) h_s5
    exact xw_vret dr_passGate_54 rfl
  · refine xw_aload0 dr_passGate_9 ?_
    refine xw_cVi dr_passGate_10 (lk_r_passGate_10 (xl_n hn (by decide)) rfl) ok_r_leadsInwards (mr_leadsInwards hl hn) ⟨Nat.le_of_ble_eq_true rfl, Nat.le_of_ble_eq_true rfl⟩ ?_
    refine xw_if_eq' dr_passGate_13 rfl (fun h6 => ?_) (fun h6 => ?_)
    · refine xw_aload0 dr_passGate_31 ?_
      refine xw_aload0 dr_passGate_32 ?_
      refine xw_cVi dr_passGate_33 (lk_r_passGate_33 (xl_n hn (by decide)) rfl) ok_r_next (mr_next hl hn) ⟨Nat.le_of_ble_eq_true rfl, Nat.le_of_ble_eq_true rfl⟩ ?_
      refine xw_cTu dr_passGate_36 (lk_r_passGate_36 (xl_n hn (by decide)) rfl) ok_r_pushReturn (mr_pushReturn hl hn hJ_s2) ⟨Nat.le_of_ble_eq_true rfl, Nat.le_of_ble_eq_true rfl⟩ rfl (fun b7 s8 h_s8 => ?_)
      have hJ_s8 : jx_J s8 := xj_o (jr_pushReturn hJ_s2) h_s8
      refine xw_aload0 dr_passGate_39 ?_
      refine xw_aload0 dr_passGate_40 ?_
      refine xw_getR dr_passGate_41 fl_r_42 (xl_n hn (by decide)) rfl r_1_5 ?_
      refine xw_aload0 dr_passGate_44 ?_
      refine xw_getR dr_passGate_45 fl_r_38 (xl_n hn (by decide)) rfl r_1_4 ?_
      refine xw_getI dr_passGate_48 fl_r_173 (by decide) (xl_n hn (by decide)) rfl ?_
      refine xw_cTu dr_passGate_51 (lk_r_passGate_51 (xl_n hn (by decide)) rfl) ok_r_enter (mr_enter hl hn (by decide) (xl_n hn (by decide)) rfl hJ_s8) ⟨Nat.le_of_ble_eq_true rfl, Nat.le_of_ble_eq_true rfl⟩ rfl (fun b9 s10 h_s10 => ?_)
      have hJ_s10 : jx_J s10 := xj_o (jr_enter hJ_s8) h_s10
      exact xw_vret dr_passGate_54 rfl
    · refine xw_aload0 dr_passGate_16 ?_
      refine xw_aload0 dr_passGate_17 ?_
      refine xw_cTi dr_passGate_18 (lk_r_passGate_18 (xl_n hn (by decide)) rfl) ok_r_findInnerStack (mr_findInnerStack hl hn hJ_s2) ⟨Nat.le_of_ble_eq_true rfl, Nat.le_of_ble_eq_true rfl⟩ rfl (fun b11 s12 h_s12 => ?_)
      have hJ_s12 : jx_J s12 := xj_o (jr_findInnerStack hJ_s2) h_s12
      refine xw_aload0 dr_passGate_21 ?_
      refine xw_getR dr_passGate_22 fl_r_38 (xl_n hn (by decide)) rfl r_1_4 ?_
      refine xw_getI dr_passGate_25 fl_r_276 (by decide) (xl_n hn (by decide)) rfl ?_
      refine xw_cTu dr_passGate_28 (lk_r_passGate_28 (xl_n hn (by decide)) rfl) ok_r_changeStack (mr_changeStack hl hn (hJ_s12).2.2 hJ_s12) ⟨Nat.le_of_ble_eq_true rfl, Nat.le_of_ble_eq_true rfl⟩ rfl (fun b13 s14 h_s14 => ?_)
      have hJ_s14 : jx_J s14 := xj_o (jr_changeStack hJ_s12) h_s14
      refine xw_aload0 dr_passGate_31 ?_
      refine xw_aload0 dr_passGate_32 ?_
      refine xw_cVi dr_passGate_33 (lk_r_passGate_33 (xl_n hn (by decide)) rfl) ok_r_next (mr_next hl hn) ⟨Nat.le_of_ble_eq_true rfl, Nat.le_of_ble_eq_true rfl⟩ ?_
      refine xw_cTu dr_passGate_36 (lk_r_passGate_36 (xl_n hn (by decide)) rfl) ok_r_pushReturn (mr_pushReturn hl hn hJ_s14) ⟨Nat.le_of_ble_eq_true rfl, Nat.le_of_ble_eq_true rfl⟩ rfl (fun b15 s16 h_s16 => ?_)
      have hJ_s16 : jx_J s16 := xj_o (jr_pushReturn hJ_s14) h_s16
      refine xw_aload0 dr_passGate_39 ?_
      refine xw_aload0 dr_passGate_40 ?_
      refine xw_getR dr_passGate_41 fl_r_42 (xl_n hn (by decide)) rfl r_1_5 ?_
      refine xw_aload0 dr_passGate_44 ?_
      refine xw_getR dr_passGate_45 fl_r_38 (xl_n hn (by decide)) rfl r_1_4 ?_
      refine xw_getI dr_passGate_48 fl_r_173 (by decide) (xl_n hn (by decide)) rfl ?_
      refine xw_cTu dr_passGate_51 (lk_r_passGate_51 (xl_n hn (by decide)) rfl) ok_r_enter (mr_enter hl hn (by decide) (xl_n hn (by decide)) rfl hJ_s16) ⟨Nat.le_of_ble_eq_true rfl, Nat.le_of_ble_eq_true rfl⟩ rfl (fun b17 s18 h_s18 => ?_)
      have hJ_s18 : jx_J s18 := xj_o (jr_enter hJ_s16) h_s18
      exact xw_vret dr_passGate_54 rfl
theorem jr_passGate {a1 : Int32} {σ : xs_S} (hJ : jx_J σ) : jx_J (fr_passGate a1 σ).2 := by
  unfold fr_passGate
  refine xj_b (jr_findTarget hJ) (fun b1 s2 h_s2 hJ_s2 => ?_)
  refine xj_f (fun h3 => ?_) (fun h3 => ?_)
  · refine xj_b (jr_enter hJ_s2) (fun b4 s5 h_s5 hJ_s5 => ?_)
    exact hJ_s5
  · refine xj_f (fun h6 => ?_) (fun h6 => ?_)
    · refine xj_b (jr_pushReturn hJ_s2) (fun b7 s8 h_s8 hJ_s8 => ?_)
      refine xj_b (jr_enter hJ_s8) (fun b9 s10 h_s10 hJ_s10 => ?_)
      exact hJ_s10
    · refine xj_b (jr_findInnerStack hJ_s2) (fun b11 s12 h_s12 hJ_s12 => ?_)
      refine xj_b (jr_changeStack hJ_s12) (fun b13 s14 h_s14 hJ_s14 => ?_)
      refine xj_b (jr_pushReturn hJ_s14) (fun b15 s16 h_s16 hJ_s16 => ?_)
      refine xj_b (jr_enter hJ_s16) (fun b17 s18 h_s18 hJ_s18 => ?_)
      exact hJ_s18
def fr_transfer (a1 : Int32) (a2 : Int32) (a3 : Int32) (σ : xs_S) : xp_P Unit := xl_l ((fr_codeOf a1 σ)) (fun v1 => xp_b (fx_refuse (fr_isNull a1 σ) (13 : Int32) (0 : Int32) σ) (fun b2 s3 => xp_b (fr_lookUp a1 13 s3) (fun b4 s5 => (if (fr_mayBeEntered 13 s5) = 0 then xl_l ((if (s5 13 3) = (7 : Int32) then (1 : Int32) else (if (s5 13 3) = (5 : Int32) then (1 : Int32) else (0 : Int32)))) (fun v7 => xl_l ((if (s5 13 4) < (s5 3 6) then (0 : Int32) else (if (s5 13 4) < (fr_rplOf a1 s5) then (0 : Int32) else (1 : Int32)))) (fun v8 => xp_b (fx_refuse (if v7 = 0 then (1 : Int32) else (if v8 = 0 then (1 : Int32) else (0 : Int32))) (13 : Int32) v1 s5) (fun b9 s10 => xp_b (fx_refuse (if (s10 13 6) = 0 then (1 : Int32) else (0 : Int32)) (11 : Int32) v1 s10) (fun b11 s12 => (if (s12 13 3) = (5 : Int32) then xp_b (fr_switchTask (if a3 = 0 then (0 : Int32) else (1 : Int32)) s12) (fun b16 s17 => (some (), s17)) else xp_b (fr_passGate a3 s12) (fun b14 s15 => (some (), s15))))))) else (if (s5 13 3) = (2 : Int32) then xp_b (fx_refuse (if (s5 13 6) = 0 then (1 : Int32) else (0 : Int32)) (11 : Int32) v1 s5) (fun b19 s20 => (if a3 = 0 then xp_b (fr_enter 13 a2 s20) (fun b22 s23 => (some (), s23)) else xp_b (fr_pushReturn (fr_next s20) s20) (fun b24 s25 => xp_b (fr_enter 13 a2 s25) (fun b26 s27 => (some (), s27))))) else (if (s5 3 6) < (fr_rplOf a1 s5) then xl_l ((if (s5 13 3) = (7 : Int32) then (1 : Int32) else (if (s5 13 3) = (5 : Int32) then (1 : Int32) else (0 : Int32)))) (fun v29 => xl_l ((if (s5 13 4) < (s5 3 6) then (0 : Int32) else (if (s5 13 4) < (fr_rplOf a1 s5) then (0 : Int32) else (1 : Int32)))) (fun v30 => xp_b (fx_refuse (if v29 = 0 then (1 : Int32) else (if v30 = 0 then (1 : Int32) else (0 : Int32))) (13 : Int32) v1 s5) (fun b31 s32 => xp_b (fx_refuse (if (s32 13 6) = 0 then (1 : Int32) else (0 : Int32)) (11 : Int32) v1 s32) (fun b33 s34 => (if (s34 13 3) = (5 : Int32) then xp_b (fr_switchTask (if a3 = 0 then (0 : Int32) else (1 : Int32)) s34) (fun b38 s39 => (some (), s39)) else xp_b (fr_passGate a3 s34) (fun b36 s37 => (some (), s37))))))) else xp_b (fx_refuse (if (s5 13 6) = 0 then (1 : Int32) else (0 : Int32)) (11 : Int32) v1 s5) (fun b40 s41 => (if a3 = 0 then xp_b (fr_enter 13 a2 s41) (fun b43 s44 => (some (), s44)) else xp_b (fr_pushReturn (fr_next s41) s41) (fun b45 s46 => xp_b (fr_enter 13 a2 s46) (fun b47 s48 => (some (), s48)))))))))))
set_option maxRecDepth 100000 in
set_option maxHeartbeats 4000000 in
theorem mr_transfer {l : Launch} {N n u : Nat} {a1 : Int32} {a2 : Int32} {a3 : Int32} {σ : xs_S} (hl : l.stackTraces = false) (hn : 29 ≤ n) (hJ : jx_J σ) : xm_m (xk_k N) l tr_transfer [.ref 1, .int a1, .int a2, .int a3] (n, u, σ, xr_0) (xe_t eu_u n u (fr_transfer a1 a2 a3 σ)) := by
  refine xm_of hl ok_r_transfer (Nat.le_of_ble_eq_true rfl) ?_
  show xw_w (xk_k N) l tr_transfer 0 [some (.ref 1), some (.int a1), some (.int a2), some (.int a3), none, none, none] [] (n, u, σ, xr_0) (xe_t eu_u n u (fr_transfer a1 a2 a3 σ))
  unfold fr_transfer
  refine xw_iload1 dr_transfer_0 ?_
  refine xw_cVi dr_transfer_1 (lk_r_transfer_1) ok_r_codeOf (mr_codeOf hl hn) ⟨Nat.le_of_ble_eq_true rfl, Nat.le_of_ble_eq_true rfl⟩ ?_
  refine xw_li (fun v1 e_v1 => ?_)
  refine xw_istore4 dr_transfer_4 (Nat.le_of_ble_eq_true rfl) rfl ?_
  refine xw_aload0 dr_transfer_6 ?_
  refine xw_getR dr_transfer_7 fl_r_10 (xl_n hn (by decide)) rfl r_1_0 ?_
  refine xw_iload1 dr_transfer_10 ?_
  refine xw_cVi dr_transfer_11 (lk_r_transfer_11) ok_r_isNull (mr_isNull hl hn) ⟨Nat.le_of_ble_eq_true rfl, Nat.le_of_ble_eq_true rfl⟩ ?_
  refine xw_bipush dr_transfer_14 kb_13 ?_
  refine xw_iconst dr_transfer_16 ki_0 ?_
  refine xw_cTu dr_transfer_17 (lk_r_transfer_17 (xl_n hn (by decide)) rfl) ok_x_refuse (mx_refuse hl hn) ⟨Nat.le_of_ble_eq_true rfl, Nat.le_of_ble_eq_true rfl⟩ rfl (fun b2 s3 h_s3 => ?_)
  have hJ_s3 : jx_J s3 := xj_o (jx_refuse hJ) h_s3
  refine xw_aload0 dr_transfer_20 ?_
  refine xw_iload1 dr_transfer_21 ?_
  refine xw_aload0 dr_transfer_22 ?_
  refine xw_getR dr_transfer_23 fl_r_38 (xl_n hn (by decide)) rfl r_1_4 ?_
  refine xw_cTu dr_transfer_26 (lk_r_transfer_26 (xl_n hn (by decide)) rfl) ok_r_lookUp (mr_lookUp hl hn (by decide) (xl_n hn (by decide)) rfl hJ_s3) ⟨Nat.le_of_ble_eq_true rfl, Nat.le_of_ble_eq_true rfl⟩ rfl (fun b4 s5 h_s5 => ?_)
  have hJ_s5 : jx_J s5 := xj_o (jr_lookUp hJ_s3) h_s5
  refine xw_aload0 dr_transfer_29 ?_
  refine xw_aload0 dr_transfer_30 ?_
  refine xw_getR dr_transfer_31 fl_r_38 (xl_n hn (by decide)) rfl r_1_4 ?_
  refine xw_cVi dr_transfer_34 (lk_r_transfer_34 (xl_n hn (by decide)) rfl) ok_r_mayBeEntered (mr_mayBeEntered hl hn (by decide) (xl_n hn (by decide)) rfl) ⟨Nat.le_of_ble_eq_true rfl, Nat.le_of_ble_eq_true rfl⟩ ?_
  refine xw_if_eq' dr_transfer_37 rfl (fun h6 => ?_) (fun h6 => ?_)
  · refine xw_aload0 dr_transfer_113 ?_
    refine xw_getR dr_transfer_114 fl_r_38 (xl_n hn (by decide)) rfl r_1_4 ?_
    refine xw_getI dr_transfer_117 fl_r_179 (by decide) (xl_n hn (by decide)) rfl ?_
    refine xw_bipush dr_transfer_120 kb_7 ?_
    refine xw_icmp_eq_mi (J := 141) (a := (1 : Int32)) (b := (if (s5 13 3) = (5 : Int32) then (1 : Int32) else (0 : Int32))) dr_transfer_122 rfl (fun _ E' k' => ?_) (fun _ E' k' => ?_) ?_
    · refine xw_iconst dr_transfer_136 ki_1 ?_
      refine xw_goto dr_transfer_137 rfl ?_
      exact k'
    · refine xw_aload0 dr_transfer_125 ?_
      refine xw_getR dr_transfer_126 fl_r_38 (xl_n hn (by decide)) rfl r_1_4 ?_
      refine xw_getI dr_transfer_129 fl_r_179 (by decide) (xl_n hn (by decide)) rfl ?_
      refine xw_iconst dr_transfer_132 ki_5 ?_
      refine xw_icmp_ne_mi (J := 141) (a := (1 : Int32)) (b := (0 : Int32)) dr_transfer_133 rfl (fun _ E' k' => ?_) (fun _ E' k' => ?_) ?_
      · refine xw_iconst dr_transfer_140 ki_0 ?_
        exact k'
      · refine xw_iconst dr_transfer_136 ki_1 ?_
        refine xw_goto dr_transfer_137 rfl ?_
        exact k'
      exact k'
    refine xw_li (fun v7 e_v7 => ?_)
    refine xw_istore5 dr_transfer_141 (Nat.le_of_ble_eq_true rfl) rfl ?_
    refine xw_aload0 dr_transfer_143 ?_
    refine xw_getR dr_transfer_144 fl_r_38 (xl_n hn (by decide)) rfl r_1_4 ?_
    refine xw_getI dr_transfer_147 fl_r_182 (by decide) (xl_n hn (by decide)) rfl ?_
    refine xw_aload0 dr_transfer_150 ?_
    refine xw_getR dr_transfer_151 fl_r_19 (xl_n hn (by decide)) rfl r_1_1 ?_
    refine xw_getI dr_transfer_154 fl_r_157 (by decide) (xl_n hn (by decide)) rfl ?_
    refine xw_icmp_lt_mi (J := 179) (a := (0 : Int32)) (b := (if (s5 13 4) < (fr_rplOf a1 s5) then (0 : Int32) else (1 : Int32))) dr_transfer_157 rfl (fun _ E' k' => ?_) (fun _ E' k' => ?_) ?_
    · refine xw_iconst dr_transfer_178 ki_0 ?_
      exact k'
    · refine xw_aload0 dr_transfer_160 ?_
      refine xw_getR dr_transfer_161 fl_r_38 (xl_n hn (by decide)) rfl r_1_4 ?_
      refine xw_getI dr_transfer_164 fl_r_182 (by decide) (xl_n hn (by decide)) rfl ?_
      refine xw_iload1 dr_transfer_167 ?_
      refine xw_cVi dr_transfer_168 (lk_r_transfer_168) ok_r_rplOf (mr_rplOf hl hn) ⟨Nat.le_of_ble_eq_true rfl, Nat.le_of_ble_eq_true rfl⟩ ?_
      refine xw_icmp_lt_mi (J := 179) (a := (0 : Int32)) (b := (1 : Int32)) dr_transfer_171 rfl (fun _ E' k' => ?_) (fun _ E' k' => ?_) ?_
      · refine xw_iconst dr_transfer_178 ki_0 ?_
        exact k'
      · refine xw_iconst dr_transfer_174 ki_1 ?_
        refine xw_goto dr_transfer_175 rfl ?_
        exact k'
      exact k'
    refine xw_li (fun v8 e_v8 => ?_)
    refine xw_istore6 dr_transfer_179 (Nat.le_of_ble_eq_true rfl) rfl ?_
    refine xw_aload0 dr_transfer_181 ?_
    refine xw_getR dr_transfer_182 fl_r_10 (xl_n hn (by decide)) rfl r_1_0 ?_
    refine xw_iload5 dr_transfer_185 ?_
    refine xw_if_eq_mi (J := 200) (a := (1 : Int32)) (b := (if v8 = 0 then (1 : Int32) else (0 : Int32))) dr_transfer_187 rfl (fun _ E' k' => ?_) (fun _ E' k' => ?_) ?_
    · refine xw_iconst dr_transfer_195 ki_1 ?_
      refine xw_goto dr_transfer_196 rfl ?_
      exact k'
    · refine xw_iload6 dr_transfer_190 ?_
      refine xw_if_ne_mi (J := 200) (a := (1 : Int32)) (b := (0 : Int32)) dr_transfer_192 rfl (fun _ E' k' => ?_) (fun _ E' k' => ?_) ?_
      · refine xw_iconst dr_transfer_199 ki_0 ?_
        exact k'
      · refine xw_iconst dr_transfer_195 ki_1 ?_
        refine xw_goto dr_transfer_196 rfl ?_
        exact k'
      exact k'
    refine xw_bipush dr_transfer_200 kb_13 ?_
    refine xw_iload4 dr_transfer_202 ?_
    refine xw_cTu dr_transfer_204 (lk_r_transfer_204 (xl_n hn (by decide)) rfl) ok_x_refuse (mx_refuse hl hn) ⟨Nat.le_of_ble_eq_true rfl, Nat.le_of_ble_eq_true rfl⟩ rfl (fun b9 s10 h_s10 => ?_)
    have hJ_s10 : jx_J s10 := xj_o (jx_refuse hJ_s5) h_s10
    refine xw_aload0 dr_transfer_207 ?_
    refine xw_getR dr_transfer_208 fl_r_10 (xl_n hn (by decide)) rfl r_1_0 ?_
    refine xw_aload0 dr_transfer_211 ?_
    refine xw_getR dr_transfer_212 fl_r_38 (xl_n hn (by decide)) rfl r_1_4 ?_
    refine xw_getI dr_transfer_215 fl_r_231 (by decide) (xl_n hn (by decide)) rfl ?_
    refine xw_if_ne_mi (J := 226) (a := (1 : Int32)) (b := (0 : Int32)) dr_transfer_218 rfl (fun _ E' k' => ?_) (fun _ E' k' => ?_) ?_
    · refine xw_iconst dr_transfer_225 ki_0 ?_
      exact k'
    · refine xw_iconst dr_transfer_221 ki_1 ?_
      refine xw_goto dr_transfer_222 rfl ?_
      exact k'
    refine xw_bipush dr_transfer_226 kb_11 ?_
    refine xw_iload4 dr_transfer_228 ?_
    refine xw_cTu dr_transfer_230 (lk_r_transfer_230 (xl_n hn (by decide)) rfl) ok_x_refuse (mx_refuse hl hn) ⟨Nat.le_of_ble_eq_true rfl, Nat.le_of_ble_eq_true rfl⟩ rfl (fun b11 s12 h_s12 => ?_)
    have hJ_s12 : jx_J s12 := xj_o (jx_refuse hJ_s10) h_s12
    refine xw_aload0 dr_transfer_233 ?_
    refine xw_getR dr_transfer_234 fl_r_38 (xl_n hn (by decide)) rfl r_1_4 ?_
    refine xw_getI dr_transfer_237 fl_r_179 (by decide) (xl_n hn (by decide)) rfl ?_
    refine xw_iconst dr_transfer_240 ki_5 ?_
    refine xw_icmp_ne' dr_transfer_241 rfl (fun h13 => ?_) (fun h13 => ?_)
    · refine xw_aload0 dr_transfer_260 ?_
      refine xw_iload3 dr_transfer_261 ?_
      refine xw_cTu dr_transfer_262 (lk_r_transfer_262 (xl_n hn (by decide)) rfl) ok_r_passGate (mr_passGate hl hn hJ_s12) ⟨Nat.le_of_ble_eq_true rfl, Nat.le_of_ble_eq_true rfl⟩ rfl (fun b14 s15 h_s15 => ?_)
      have hJ_s15 : jx_J s15 := xj_o (jr_passGate hJ_s12) h_s15
      exact xw_vret dr_transfer_265 rfl
    · refine xw_aload0 dr_transfer_244 ?_
      refine xw_iload3 dr_transfer_245 ?_
      refine xw_if_eq_mi (J := 254) (a := (0 : Int32)) (b := (1 : Int32)) dr_transfer_246 rfl (fun _ E' k' => ?_) (fun _ E' k' => ?_) ?_
      · refine xw_iconst dr_transfer_253 ki_0 ?_
        exact k'
      · refine xw_iconst dr_transfer_249 ki_1 ?_
        refine xw_goto dr_transfer_250 rfl ?_
        exact k'
      refine xw_cTu dr_transfer_254 (lk_r_transfer_254 (xl_n hn (by decide)) rfl) ok_r_switchTask (mr_switchTask hl hn hJ_s12) ⟨Nat.le_of_ble_eq_true rfl, Nat.le_of_ble_eq_true rfl⟩ rfl (fun b16 s17 h_s17 => ?_)
      have hJ_s17 : jx_J s17 := xj_o (jr_switchTask hJ_s12) h_s17
      refine xw_goto dr_transfer_257 rfl ?_
      exact xw_vret dr_transfer_265 rfl
  · refine xw_aload0 dr_transfer_40 ?_
    refine xw_getR dr_transfer_41 fl_r_38 (xl_n hn (by decide)) rfl r_1_4 ?_
    refine xw_getI dr_transfer_44 fl_r_179 (by decide) (xl_n hn (by decide)) rfl ?_
    refine xw_iconst dr_transfer_47 ki_2 ?_
    refine xw_icmp_eq' dr_transfer_48 rfl (fun h18 => ?_) (fun h18 => ?_)
    · refine xw_aload0 dr_transfer_65 ?_
      refine xw_getR dr_transfer_66 fl_r_10 (xl_n hn (by decide)) rfl r_1_0 ?_
      refine xw_aload0 dr_transfer_69 ?_
      refine xw_getR dr_transfer_70 fl_r_38 (xl_n hn (by decide)) rfl r_1_4 ?_
      refine xw_getI dr_transfer_73 fl_r_231 (by decide) (xl_n hn (by decide)) rfl ?_
      refine xw_if_ne_mi (J := 84) (a := (1 : Int32)) (b := (0 : Int32)) dr_transfer_76 rfl (fun _ E' k' => ?_) (fun _ E' k' => ?_) ?_
      · refine xw_iconst dr_transfer_83 ki_0 ?_
        exact k'
      · refine xw_iconst dr_transfer_79 ki_1 ?_
        refine xw_goto dr_transfer_80 rfl ?_
        exact k'
      refine xw_bipush dr_transfer_84 kb_11 ?_
      refine xw_iload4 dr_transfer_86 ?_
      refine xw_cTu dr_transfer_88 (lk_r_transfer_88 (xl_n hn (by decide)) rfl) ok_x_refuse (mx_refuse hl hn) ⟨Nat.le_of_ble_eq_true rfl, Nat.le_of_ble_eq_true rfl⟩ rfl (fun b19 s20 h_s20 => ?_)
      have hJ_s20 : jx_J s20 := xj_o (jx_refuse hJ_s5) h_s20
      refine xw_iload3 dr_transfer_91 ?_
      refine xw_if_eq' dr_transfer_92 rfl (fun h21 => ?_) (fun h21 => ?_)
      · refine xw_aload0 dr_transfer_103 ?_
        refine xw_aload0 dr_transfer_104 ?_
        refine xw_getR dr_transfer_105 fl_r_38 (xl_n hn (by decide)) rfl r_1_4 ?_
        refine xw_iload2 dr_transfer_108 ?_
        refine xw_cTu dr_transfer_109 (lk_r_transfer_109 (xl_n hn (by decide)) rfl) ok_r_enter (mr_enter hl hn (by decide) (xl_n hn (by decide)) rfl hJ_s20) ⟨Nat.le_of_ble_eq_true rfl, Nat.le_of_ble_eq_true rfl⟩ rfl (fun b22 s23 h_s23 => ?_)
        have hJ_s23 : jx_J s23 := xj_o (jr_enter hJ_s20) h_s23
        exact xw_vret dr_transfer_112 rfl
      · refine xw_aload0 dr_transfer_95 ?_
        refine xw_aload0 dr_transfer_96 ?_
        refine xw_cVi dr_transfer_97 (lk_r_transfer_97 (xl_n hn (by decide)) rfl) ok_r_next (mr_next hl hn) ⟨Nat.le_of_ble_eq_true rfl, Nat.le_of_ble_eq_true rfl⟩ ?_
        refine xw_cTu dr_transfer_100 (lk_r_transfer_100 (xl_n hn (by decide)) rfl) ok_r_pushReturn (mr_pushReturn hl hn hJ_s20) ⟨Nat.le_of_ble_eq_true rfl, Nat.le_of_ble_eq_true rfl⟩ rfl (fun b24 s25 h_s25 => ?_)
        have hJ_s25 : jx_J s25 := xj_o (jr_pushReturn hJ_s20) h_s25
        refine xw_aload0 dr_transfer_103 ?_
        refine xw_aload0 dr_transfer_104 ?_
        refine xw_getR dr_transfer_105 fl_r_38 (xl_n hn (by decide)) rfl r_1_4 ?_
        refine xw_iload2 dr_transfer_108 ?_
        refine xw_cTu dr_transfer_109 (lk_r_transfer_109 (xl_n hn (by decide)) rfl) ok_r_enter (mr_enter hl hn (by decide) (xl_n hn (by decide)) rfl hJ_s25) ⟨Nat.le_of_ble_eq_true rfl, Nat.le_of_ble_eq_true rfl⟩ rfl (fun b26 s27 h_s27 => ?_)
        have hJ_s27 : jx_J s27 := xj_o (jr_enter hJ_s25) h_s27
        exact xw_vret dr_transfer_112 rfl
    · refine xw_iload1 dr_transfer_51 ?_
      refine xw_cVi dr_transfer_52 (lk_r_transfer_52) ok_r_rplOf (mr_rplOf hl hn) ⟨Nat.le_of_ble_eq_true rfl, Nat.le_of_ble_eq_true rfl⟩ ?_
      refine xw_aload0 dr_transfer_55 ?_
      refine xw_getR dr_transfer_56 fl_r_19 (xl_n hn (by decide)) rfl r_1_1 ?_
      refine xw_getI dr_transfer_59 fl_r_157 (by decide) (xl_n hn (by decide)) rfl ?_
      refine xw_icmp_gt' dr_transfer_62 rfl (fun h28 => ?_) (fun h28 => ?_)
      · refine xw_aload0 dr_transfer_113 ?_
        refine xw_getR dr_transfer_114 fl_r_38 (xl_n hn (by decide)) rfl r_1_4 ?_
        refine xw_getI dr_transfer_117 fl_r_179 (by decide) (xl_n hn (by decide)) rfl ?_
        refine xw_bipush dr_transfer_120 kb_7 ?_
        refine xw_icmp_eq_mi (J := 141) (a := (1 : Int32)) (b := (if (s5 13 3) = (5 : Int32) then (1 : Int32) else (0 : Int32))) dr_transfer_122 rfl (fun _ E' k' => ?_) (fun _ E' k' => ?_) ?_
        · refine xw_iconst dr_transfer_136 ki_1 ?_
          refine xw_goto dr_transfer_137 rfl ?_
          exact k'
        · refine xw_aload0 dr_transfer_125 ?_
          refine xw_getR dr_transfer_126 fl_r_38 (xl_n hn (by decide)) rfl r_1_4 ?_
          refine xw_getI dr_transfer_129 fl_r_179 (by decide) (xl_n hn (by decide)) rfl ?_
          refine xw_iconst dr_transfer_132 ki_5 ?_
          refine xw_icmp_ne_mi (J := 141) (a := (1 : Int32)) (b := (0 : Int32)) dr_transfer_133 rfl (fun _ E' k' => ?_) (fun _ E' k' => ?_) ?_
          · refine xw_iconst dr_transfer_140 ki_0 ?_
            exact k'
          · refine xw_iconst dr_transfer_136 ki_1 ?_
            refine xw_goto dr_transfer_137 rfl ?_
            exact k'
          exact k'
        refine xw_li (fun v29 e_v29 => ?_)
        refine xw_istore5 dr_transfer_141 (Nat.le_of_ble_eq_true rfl) rfl ?_
        refine xw_aload0 dr_transfer_143 ?_
        refine xw_getR dr_transfer_144 fl_r_38 (xl_n hn (by decide)) rfl r_1_4 ?_
        refine xw_getI dr_transfer_147 fl_r_182 (by decide) (xl_n hn (by decide)) rfl ?_
        refine xw_aload0 dr_transfer_150 ?_
        refine xw_getR dr_transfer_151 fl_r_19 (xl_n hn (by decide)) rfl r_1_1 ?_
        refine xw_getI dr_transfer_154 fl_r_157 (by decide) (xl_n hn (by decide)) rfl ?_
        refine xw_icmp_lt_mi (J := 179) (a := (0 : Int32)) (b := (if (s5 13 4) < (fr_rplOf a1 s5) then (0 : Int32) else (1 : Int32))) dr_transfer_157 rfl (fun _ E' k' => ?_) (fun _ E' k' => ?_) ?_
        · refine xw_iconst dr_transfer_178 ki_0 ?_
          exact k'
        · refine xw_aload0 dr_transfer_160 ?_
          refine xw_getR dr_transfer_161 fl_r_38 (xl_n hn (by decide)) rfl r_1_4 ?_
          refine xw_getI dr_transfer_164 fl_r_182 (by decide) (xl_n hn (by decide)) rfl ?_
          refine xw_iload1 dr_transfer_167 ?_
          refine xw_cVi dr_transfer_168 (lk_r_transfer_168) ok_r_rplOf (mr_rplOf hl hn) ⟨Nat.le_of_ble_eq_true rfl, Nat.le_of_ble_eq_true rfl⟩ ?_
          refine xw_icmp_lt_mi (J := 179) (a := (0 : Int32)) (b := (1 : Int32)) dr_transfer_171 rfl (fun _ E' k' => ?_) (fun _ E' k' => ?_) ?_
          · refine xw_iconst dr_transfer_178 ki_0 ?_
            exact k'
          · refine xw_iconst dr_transfer_174 ki_1 ?_
            refine xw_goto dr_transfer_175 rfl ?_
            exact k'
          exact k'
        refine xw_li (fun v30 e_v30 => ?_)
        refine xw_istore6 dr_transfer_179 (Nat.le_of_ble_eq_true rfl) rfl ?_
        refine xw_aload0 dr_transfer_181 ?_
        refine xw_getR dr_transfer_182 fl_r_10 (xl_n hn (by decide)) rfl r_1_0 ?_
        refine xw_iload5 dr_transfer_185 ?_
        refine xw_if_eq_mi (J := 200) (a := (1 : Int32)) (b := (if v30 = 0 then (1 : Int32) else (0 : Int32))) dr_transfer_187 rfl (fun _ E' k' => ?_) (fun _ E' k' => ?_) ?_
        · refine xw_iconst dr_transfer_195 ki_1 ?_
          refine xw_goto dr_transfer_196 rfl ?_
          exact k'
        · refine xw_iload6 dr_transfer_190 ?_
          refine xw_if_ne_mi (J := 200) (a := (1 : Int32)) (b := (0 : Int32)) dr_transfer_192 rfl (fun _ E' k' => ?_) (fun _ E' k' => ?_) ?_
          · refine xw_iconst dr_transfer_199 ki_0 ?_
            exact k'
          · refine xw_iconst dr_transfer_195 ki_1 ?_
            refine xw_goto dr_transfer_196 rfl ?_
            exact k'
          exact k'
        refine xw_bipush dr_transfer_200 kb_13 ?_
        refine xw_iload4 dr_transfer_202 ?_
        refine xw_cTu dr_transfer_204 (lk_r_transfer_204 (xl_n hn (by decide)) rfl) ok_x_refuse (mx_refuse hl hn) ⟨Nat.le_of_ble_eq_true rfl, Nat.le_of_ble_eq_true rfl⟩ rfl (fun b31 s32 h_s32 => ?_)
        have hJ_s32 : jx_J s32 := xj_o (jx_refuse hJ_s5) h_s32
        refine xw_aload0 dr_transfer_207 ?_
        refine xw_getR dr_transfer_208 fl_r_10 (xl_n hn (by decide)) rfl r_1_0 ?_
        refine xw_aload0 dr_transfer_211 ?_
        refine xw_getR dr_transfer_212 fl_r_38 (xl_n hn (by decide)) rfl r_1_4 ?_
        refine xw_getI dr_transfer_215 fl_r_231 (by decide) (xl_n hn (by decide)) rfl ?_
        refine xw_if_ne_mi (J := 226) (a := (1 : Int32)) (b := (0 : Int32)) dr_transfer_218 rfl (fun _ E' k' => ?_) (fun _ E' k' => ?_) ?_
        · refine xw_iconst dr_transfer_225 ki_0 ?_
          exact k'
        · refine xw_iconst dr_transfer_221 ki_1 ?_
          refine xw_goto dr_transfer_222 rfl ?_
          exact k'
        refine xw_bipush dr_transfer_226 kb_11 ?_
        refine xw_iload4 dr_transfer_228 ?_
        refine xw_cTu dr_transfer_230 (lk_r_transfer_230 (xl_n hn (by decide)) rfl) ok_x_refuse (mx_refuse hl hn) ⟨Nat.le_of_ble_eq_true rfl, Nat.le_of_ble_eq_true rfl⟩ rfl (fun b33 s34 h_s34 => ?_)
        have hJ_s34 : jx_J s34 := xj_o (jx_refuse hJ_s32) h_s34
        refine xw_aload0 dr_transfer_233 ?_
        refine xw_getR dr_transfer_234 fl_r_38 (xl_n hn (by decide)) rfl r_1_4 ?_
        refine xw_getI dr_transfer_237 fl_r_179 (by decide) (xl_n hn (by decide)) rfl ?_
        refine xw_iconst dr_transfer_240 ki_5 ?_
        refine xw_icmp_ne' dr_transfer_241 rfl (fun h35 => ?_) (fun h35 => ?_)
        · refine xw_aload0 dr_transfer_260 ?_
          refine xw_iload3 dr_transfer_261 ?_
          refine xw_cTu dr_transfer_262 (lk_r_transfer_262 (xl_n hn (by decide)) rfl) ok_r_passGate (mr_passGate hl hn hJ_s34) ⟨Nat.le_of_ble_eq_true rfl, Nat.le_of_ble_eq_true rfl⟩ rfl (fun b36 s37 h_s37 => ?_)
          have hJ_s37 : jx_J s37 := xj_o (jr_passGate hJ_s34) h_s37
          exact xw_vret dr_transfer_265 rfl
        · refine xw_aload0 dr_transfer_244 ?_
          refine xw_iload3 dr_transfer_245 ?_
          refine xw_if_eq_mi (J := 254) (a := (0 : Int32)) (b := (1 : Int32)) dr_transfer_246 rfl (fun _ E' k' => ?_) (fun _ E' k' => ?_) ?_
          · refine xw_iconst dr_transfer_253 ki_0 ?_
            exact k'
          · refine xw_iconst dr_transfer_249 ki_1 ?_
            refine xw_goto dr_transfer_250 rfl ?_
            exact k'
          refine xw_cTu dr_transfer_254 (lk_r_transfer_254 (xl_n hn (by decide)) rfl) ok_r_switchTask (mr_switchTask hl hn hJ_s34) ⟨Nat.le_of_ble_eq_true rfl, Nat.le_of_ble_eq_true rfl⟩ rfl (fun b38 s39 h_s39 => ?_)
          have hJ_s39 : jx_J s39 := xj_o (jr_switchTask hJ_s34) h_s39
          refine xw_goto dr_transfer_257 rfl ?_
          exact xw_vret dr_transfer_265 rfl
      · refine xw_aload0 dr_transfer_65 ?_
        refine xw_getR dr_transfer_66 fl_r_10 (xl_n hn (by decide)) rfl r_1_0 ?_
        refine xw_aload0 dr_transfer_69 ?_
        refine xw_getR dr_transfer_70 fl_r_38 (xl_n hn (by decide)) rfl r_1_4 ?_
        refine xw_getI dr_transfer_73 fl_r_231 (by decide) (xl_n hn (by decide)) rfl ?_
        refine xw_if_ne_mi (J := 84) (a := (1 : Int32)) (b := (0 : Int32)) dr_transfer_76 rfl (fun _ E' k' => ?_) (fun _ E' k' => ?_) ?_
        · refine xw_iconst dr_transfer_83 ki_0 ?_
          exact k'
        · refine xw_iconst dr_transfer_79 ki_1 ?_
          refine xw_goto dr_transfer_80 rfl ?_
          exact k'
        refine xw_bipush dr_transfer_84 kb_11 ?_
        refine xw_iload4 dr_transfer_86 ?_
        refine xw_cTu dr_transfer_88 (lk_r_transfer_88 (xl_n hn (by decide)) rfl) ok_x_refuse (mx_refuse hl hn) ⟨Nat.le_of_ble_eq_true rfl, Nat.le_of_ble_eq_true rfl⟩ rfl (fun b40 s41 h_s41 => ?_)
        have hJ_s41 : jx_J s41 := xj_o (jx_refuse hJ_s5) h_s41
        refine xw_iload3 dr_transfer_91 ?_
        refine xw_if_eq' dr_transfer_92 rfl (fun h42 => ?_) (fun h42 => ?_)
        · refine xw_aload0 dr_transfer_103 ?_
          refine xw_aload0 dr_transfer_104 ?_
          refine xw_getR dr_transfer_105 fl_r_38 (xl_n hn (by decide)) rfl r_1_4 ?_
          refine xw_iload2 dr_transfer_108 ?_
          refine xw_cTu dr_transfer_109 (lk_r_transfer_109 (xl_n hn (by decide)) rfl) ok_r_enter (mr_enter hl hn (by decide) (xl_n hn (by decide)) rfl hJ_s41) ⟨Nat.le_of_ble_eq_true rfl, Nat.le_of_ble_eq_true rfl⟩ rfl (fun b43 s44 h_s44 => ?_)
          have hJ_s44 : jx_J s44 := xj_o (jr_enter hJ_s41) h_s44
          exact xw_vret dr_transfer_112 rfl
        · refine xw_aload0 dr_transfer_95 ?_
          refine xw_aload0 dr_transfer_96 ?_
          refine xw_cVi dr_transfer_97 (lk_r_transfer_97 (xl_n hn (by decide)) rfl) ok_r_next (mr_next hl hn) ⟨Nat.le_of_ble_eq_true rfl, Nat.le_of_ble_eq_true rfl⟩ ?_
          refine xw_cTu dr_transfer_100 (lk_r_transfer_100 (xl_n hn (by decide)) rfl) ok_r_pushReturn (mr_pushReturn hl hn hJ_s41) ⟨Nat.le_of_ble_eq_true rfl, Nat.le_of_ble_eq_true rfl⟩ rfl (fun b45 s46 h_s46 => ?_)
          have hJ_s46 : jx_J s46 := xj_o (jr_pushReturn hJ_s41) h_s46
          refine xw_aload0 dr_transfer_103 ?_
          refine xw_aload0 dr_transfer_104 ?_
          refine xw_getR dr_transfer_105 fl_r_38 (xl_n hn (by decide)) rfl r_1_4 ?_
          refine xw_iload2 dr_transfer_108 ?_
          refine xw_cTu dr_transfer_109 (lk_r_transfer_109 (xl_n hn (by decide)) rfl) ok_r_enter (mr_enter hl hn (by decide) (xl_n hn (by decide)) rfl hJ_s46) ⟨Nat.le_of_ble_eq_true rfl, Nat.le_of_ble_eq_true rfl⟩ rfl (fun b47 s48 h_s48 => ?_)
          have hJ_s48 : jx_J s48 := xj_o (jr_enter hJ_s46) h_s48
          exact xw_vret dr_transfer_112 rfl
theorem jr_transfer {a1 : Int32} {a2 : Int32} {a3 : Int32} {σ : xs_S} (hJ : jx_J σ) : jx_J (fr_transfer a1 a2 a3 σ).2 := by
  unfold fr_transfer
  refine xj_l (fun v1 e_v1 => ?_)
  refine xj_b (jx_refuse hJ) (fun b2 s3 h_s3 hJ_s3 => ?_)
  refine xj_b (jr_lookUp hJ_s3) (fun b4 s5 h_s5 hJ_s5 => ?_)
  refine xj_f (fun h6 => ?_) (fun h6 => ?_)
  · refine xj_l (fun v7 e_v7 => ?_)
    refine xj_l (fun v8 e_v8 => ?_)
    refine xj_b (jx_refuse hJ_s5) (fun b9 s10 h_s10 hJ_s10 => ?_)
    refine xj_b (jx_refuse hJ_s10) (fun b11 s12 h_s12 hJ_s12 => ?_)
    refine xj_f (fun h13 => ?_) (fun h13 => ?_)
    · refine xj_b (jr_switchTask hJ_s12) (fun b16 s17 h_s17 hJ_s17 => ?_)
      exact hJ_s17
    · refine xj_b (jr_passGate hJ_s12) (fun b14 s15 h_s15 hJ_s15 => ?_)
      exact hJ_s15
  · refine xj_f (fun h18 => ?_) (fun h18 => ?_)
    · refine xj_b (jx_refuse hJ_s5) (fun b19 s20 h_s20 hJ_s20 => ?_)
      refine xj_f (fun h21 => ?_) (fun h21 => ?_)
      · refine xj_b (jr_enter hJ_s20) (fun b22 s23 h_s23 hJ_s23 => ?_)
        exact hJ_s23
      · refine xj_b (jr_pushReturn hJ_s20) (fun b24 s25 h_s25 hJ_s25 => ?_)
        refine xj_b (jr_enter hJ_s25) (fun b26 s27 h_s27 hJ_s27 => ?_)
        exact hJ_s27
    · refine xj_f (fun h28 => ?_) (fun h28 => ?_)
      · refine xj_l (fun v29 e_v29 => ?_)
        refine xj_l (fun v30 e_v30 => ?_)
        refine xj_b (jx_refuse hJ_s5) (fun b31 s32 h_s32 hJ_s32 => ?_)
        refine xj_b (jx_refuse hJ_s32) (fun b33 s34 h_s34 hJ_s34 => ?_)
        refine xj_f (fun h35 => ?_) (fun h35 => ?_)
        · refine xj_b (jr_switchTask hJ_s34) (fun b38 s39 h_s39 hJ_s39 => ?_)
          exact hJ_s39
        · refine xj_b (jr_passGate hJ_s34) (fun b36 s37 h_s37 hJ_s37 => ?_)
          exact hJ_s37
      · refine xj_b (jx_refuse hJ_s5) (fun b40 s41 h_s41 hJ_s41 => ?_)
        refine xj_f (fun h42 => ?_) (fun h42 => ?_)
        · refine xj_b (jr_enter hJ_s41) (fun b43 s44 h_s44 hJ_s44 => ?_)
          exact hJ_s44
        · refine xj_b (jr_pushReturn hJ_s41) (fun b45 s46 h_s46 hJ_s46 => ?_)
          refine xj_b (jr_enter hJ_s46) (fun b47 s48 h_s48 hJ_s48 => ?_)
          exact hJ_s48
