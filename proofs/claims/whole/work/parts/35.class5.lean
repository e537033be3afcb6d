def fr_findReturn (a1 : Int32) (σ : xs_S) : xp_P Unit := xl_l ((fr_codeOf a1 σ)) (fun v1 => xl_l ((fr_rplOf a1 σ)) (fun v2 => xp_b (fx_refuse (fr_isNull a1 σ) (13 : Int32) (0 : Int32) σ) (fun b3 s4 => xp_b (fx_refuse (if (s4 3 6) ≤ v2 then (0 : Int32) else (1 : Int32)) (13 : Int32) v1 s4) (fun b5 s6 => xp_b (fr_lookUp a1 14 s6) (fun b7 s8 => xl_l ((if (s8 14 3) = (1 : Int32) then (if (s8 14 4) = v2 then (1 : Int32) else (if (s8 14 3) = (2 : Int32) then (if v2 < (s8 14 4) then (0 : Int32) else (1 : Int32)) else (0 : Int32))) else (if (s8 14 3) = (2 : Int32) then (if v2 < (s8 14 4) then (0 : Int32) else (1 : Int32)) else (0 : Int32)))) (fun v9 => xp_b (fx_refuse (if v9 = 0 then (1 : Int32) else (0 : Int32)) (13 : Int32) v1 s8) (fun b10 s11 => xp_b (fx_refuse (if (s11 14 6) = 0 then (1 : Int32) else (0 : Int32)) (11 : Int32) v1 s11) (fun b12 s13 => (some (), s13)))))))))
set_option maxRecDepth 100000 in
set_option maxHeartbeats 4000000 in
theorem mr_findReturn {l : Launch} {N n u : Nat} {a1 : Int32} {σ : xs_S} (hl : l.stackTraces = false) (hn : 29 ≤ n) (hJ : jx_J σ) : xm_m (xk_k N) l tr_findReturn [.ref 1, .int a1] (n, u, σ, xr_0) (xe_t eu_u n u (fr_findReturn a1 σ)) := by
  refine xm_of hl ok_r_findReturn (Nat.le_of_ble_eq_true rfl) ?_
  show xw_w (xk_k N) l tr_findReturn 0 [some (.ref 1), some (.int a1), none, none, none] [] (n, u, σ, xr_0) (xe_t eu_u n u (fr_findReturn a1 σ))
  unfold fr_findReturn
  refine xw_iload1 dr_findReturn_0 ?_
  refine xw_cVi dr_findReturn_1 (lk_r_findReturn_1) ok_r_codeOf (mr_codeOf hl hn) ⟨Nat.le_of_ble_eq_true rfl, Nat.le_of_ble_eq_true rfl⟩ ?_
  refine xw_li (fun v1 e_v1 => ?_)
  refine xw_istore2 dr_findReturn_4 (Nat.le_of_ble_eq_true rfl) rfl ?_
  refine xw_iload1 dr_findReturn_5 ?_
  refine xw_cVi dr_findReturn_6 (lk_r_findReturn_6) ok_r_rplOf (mr_rplOf hl hn) ⟨Nat.le_of_ble_eq_true rfl, Nat.le_of_ble_eq_true rfl⟩ ?_
  refine xw_li (fun v2 e_v2 => ?_)
  refine xw_istore3 dr_findReturn_9 (Nat.le_of_ble_eq_true rfl) rfl ?_
  refine xw_aload0 dr_findReturn_10 ?_
  refine xw_getR dr_findReturn_11 fl_r_10 (xl_n hn (by decide)) rfl r_1_0 ?_
  refine xw_iload1 dr_findReturn_14 ?_
  refine xw_cVi dr_findReturn_15 (lk_r_findReturn_15) ok_r_isNull (mr_isNull hl hn) ⟨Nat.le_of_ble_eq_true rfl, Nat.le_of_ble_eq_true rfl⟩ ?_
  refine xw_bipush dr_findReturn_18 kb_13 ?_
  refine xw_iconst dr_findReturn_20 ki_0 ?_
  refine xw_cTu dr_findReturn_21 (lk_r_findReturn_21 (xl_n hn (by decide)) rfl) ok_x_refuse (mx_refuse hl hn) ⟨Nat.le_of_ble_eq_true rfl, Nat.le_of_ble_eq_true rfl⟩ rfl (fun b3 s4 h_s4 => ?_)
  have hJ_s4 : jx_J s4 := xj_o (jx_refuse hJ) h_s4
  refine xw_aload0 dr_findReturn_24 ?_
  refine xw_getR dr_findReturn_25 fl_r_10 (xl_n hn (by decide)) rfl r_1_0 ?_
  refine xw_iload3 dr_findReturn_28 ?_
  refine xw_aload0 dr_findReturn_29 ?_
  refine xw_getR dr_findReturn_30 fl_r_19 (xl_n hn (by decide)) rfl r_1_1 ?_
  refine xw_getI dr_findReturn_33 fl_r_157 (by decide) (xl_n hn (by decide)) rfl ?_
  refine xw_icmp_ge_mi (J := 44) (a := (0 : Int32)) (b := (1 : Int32)) dr_findReturn_36 rfl (fun _ E' k' => ?_) (fun _ E' k' => ?_) ?_
  · refine xw_iconst dr_findReturn_43 ki_0 ?_
    exact k'
  · refine xw_iconst dr_findReturn_39 ki_1 ?_
    refine xw_goto dr_findReturn_40 rfl ?_
    exact k'
  refine xw_bipush dr_findReturn_44 kb_13 ?_
  refine xw_iload2 dr_findReturn_46 ?_
  refine xw_cTu dr_findReturn_47 (lk_r_findReturn_47 (xl_n hn (by decide)) rfl) ok_x_refuse (mx_refuse hl hn) ⟨Nat.le_of_ble_eq_true rfl, Nat.le_of_ble_eq_true rfl⟩ rfl (fun b5 s6 h_s6 => ?_)
  have hJ_s6 : jx_J s6 := xj_o (jx_refuse hJ_s4) h_s6
  refine xw_aload0 dr_findReturn_50 ?_
  refine xw_iload1 dr_findReturn_51 ?_
  refine xw_aload0 dr_findReturn_52 ?_
  refine xw_getR dr_findReturn_53 fl_r_42 (xl_n hn (by decide)) rfl r_1_5 ?_
  refine xw_cTu dr_findReturn_56 (lk_r_findReturn_56 (xl_n hn (by decide)) rfl) ok_r_lookUp (mr_lookUp hl hn (by decide) (xl_n hn (by decide)) rfl hJ_s6) ⟨Nat.le_of_ble_eq_true rfl, Nat.le_of_ble_eq_true rfl⟩ rfl (fun b7 s8 h_s8 => ?_)
  have hJ_s8 : jx_J s8 := xj_o (jr_lookUp hJ_s6) h_s8
  refine xw_aload0 dr_findReturn_59 ?_
  refine xw_getR dr_findReturn_60 fl_r_42 (xl_n hn (by decide)) rfl r_1_5 ?_
  refine xw_getI dr_findReturn_63 fl_r_179 (by decide) (xl_n hn (by decide)) rfl ?_
  refine xw_iconst dr_findReturn_66 ki_1 ?_
  refine xw_icmp_ne_mi (J := 108) (a := (if (s8 14 4) = v2 then (1 : Int32) else (if (s8 14 3) = (2 : Int32) then (if v2 < (s8 14 4) then (0 : Int32) else (1 : Int32)) else (0 : Int32)))) (b := (if (s8 14 3) = (2 : Int32) then (if v2 < (s8 14 4) then (0 : Int32) else (1 : Int32)) else (0 : Int32))) dr_findReturn_67 rfl (fun _ E' k' => ?_) (fun _ E' k' => ?_) ?_
  · refine xw_aload0 dr_findReturn_81 ?_
    refine xw_getR dr_findReturn_82 fl_r_42 (xl_n hn (by decide)) rfl r_1_5 ?_
    refine xw_getI dr_findReturn_85 fl_r_179 (by decide) (xl_n hn (by decide)) rfl ?_
    refine xw_iconst dr_findReturn_88 ki_2 ?_
    refine xw_icmp_ne_mi (J := 108) (a := (if v2 < (s8 14 4) then (0 : Int32) else (1 : Int32))) (b := (0 : Int32)) dr_findReturn_89 rfl (fun _ E' k' => ?_) (fun _ E' k' => ?_) ?_
    · refine xw_iconst dr_findReturn_107 ki_0 ?_
      exact k'
    · refine xw_aload0 dr_findReturn_92 ?_
      refine xw_getR dr_findReturn_93 fl_r_42 (xl_n hn (by decide)) rfl r_1_5 ?_
      refine xw_getI dr_findReturn_96 fl_r_182 (by decide) (xl_n hn (by decide)) rfl ?_
      refine xw_iload3 dr_findReturn_99 ?_
      refine xw_icmp_gt_mi (J := 108) (a := (0 : Int32)) (b := (1 : Int32)) dr_findReturn_100 rfl (fun _ E' k' => ?_) (fun _ E' k' => ?_) ?_
      · refine xw_iconst dr_findReturn_107 ki_0 ?_
        exact k'
      · refine xw_iconst dr_findReturn_103 ki_1 ?_
        refine xw_goto dr_findReturn_104 rfl ?_
        exact k'
      exact k'
    exact k'
  · refine xw_aload0 dr_findReturn_70 ?_
    refine xw_getR dr_findReturn_71 fl_r_42 (xl_n hn (by decide)) rfl r_1_5 ?_
    refine xw_getI dr_findReturn_74 fl_r_182 (by decide) (xl_n hn (by decide)) rfl ?_
    refine xw_iload3 dr_findReturn_77 ?_
    refine xw_icmp_eq_mi (J := 108) (a := (1 : Int32)) (b := (if (s8 14 3) = (2 : Int32) then (if v2 < (s8 14 4) then (0 : Int32) else (1 : Int32)) else (0 : Int32))) dr_findReturn_78 rfl (fun _ E' k' => ?_) (fun _ E' k' => ?_) ?_
    · refine xw_iconst dr_findReturn_103 ki_1 ?_
      refine xw_goto dr_findReturn_104 rfl ?_
      exact k'
    · refine xw_aload0 dr_findReturn_81 ?_
      refine xw_getR dr_findReturn_82 fl_r_42 (xl_n hn (by decide)) rfl r_1_5 ?_
      refine xw_getI dr_findReturn_85 fl_r_179 (by decide) (xl_n hn (by decide)) rfl ?_
      refine xw_iconst dr_findReturn_88 ki_2 ?_
      refine xw_icmp_ne_mi (J := 108) (a := (if v2 < (s8 14 4) then (0 : Int32) else (1 : Int32))) (b := (0 : Int32)) dr_findReturn_89 rfl (fun _ E' k' => ?_) (fun _ E' k' => ?_) ?_
      · refine xw_iconst dr_findReturn_107 ki_0 ?_
        exact k'
      · refine xw_aload0 dr_findReturn_92 ?_
        refine xw_getR dr_findReturn_93 fl_r_42 (xl_n hn (by decide)) rfl r_1_5 ?_
        refine xw_getI dr_findReturn_96 fl_r_182 (by decide) (xl_n hn (by decide)) rfl ?_
        refine xw_iload3 dr_findReturn_99 ?_
        refine xw_icmp_gt_mi (J := 108) (a := (0 : Int32)) (b := (1 : Int32)) dr_findReturn_100 rfl (fun _ E' k' => ?_) (fun _ E' k' => ?_) ?_
        · refine xw_iconst dr_findReturn_107 ki_0 ?_
          exact k'
        · refine xw_iconst dr_findReturn_103 ki_1 ?_
          refine xw_goto dr_findReturn_104 rfl ?_
          exact k'
        exact k'
      exact k'
    exact k'
  refine xw_li (fun v9 e_v9 => ?_)
  refine xw_istore4 dr_findReturn_108 (Nat.le_of_ble_eq_true rfl) rfl ?_
  refine xw_aload0 dr_findReturn_110 ?_
  refine xw_getR dr_findReturn_111 fl_r_10 (xl_n hn (by decide)) rfl r_1_0 ?_
  refine xw_iload4 dr_findReturn_114 ?_
  refine xw_if_ne_mi (J := 124) (a := (1 : Int32)) (b := (0 : Int32)) dr_findReturn_116 rfl (fun _ E' k' => ?_) (fun _ E' k' => ?_) ?_
  · refine xw_iconst dr_findReturn_123 ki_0 ?_
    exact k'
  · refine xw_iconst dr_findReturn_119 ki_1 ?_
    refine xw_goto dr_findReturn_120 rfl ?_
    exact k'
  refine xw_bipush dr_findReturn_124 kb_13 ?_
  refine xw_iload2 dr_findReturn_126 ?_
  refine xw_cTu dr_findReturn_127 (lk_r_findReturn_127 (xl_n hn (by decide)) rfl) ok_x_refuse (mx_refuse hl hn) ⟨Nat.le_of_ble_eq_true rfl, Nat.le_of_ble_eq_true rfl⟩ rfl (fun b10 s11 h_s11 => ?_)
  have hJ_s11 : jx_J s11 := xj_o (jx_refuse hJ_s8) h_s11
  refine xw_aload0 dr_findReturn_130 ?_
  refine xw_getR dr_findReturn_131 fl_r_10 (xl_n hn (by decide)) rfl r_1_0 ?_
  refine xw_aload0 dr_findReturn_134 ?_
  refine xw_getR dr_findReturn_135 fl_r_42 (xl_n hn (by decide)) rfl r_1_5 ?_
  refine xw_getI dr_findReturn_138 fl_r_231 (by decide) (xl_n hn (by decide)) rfl ?_
  refine xw_if_ne_mi (J := 149) (a := (1 : Int32)) (b := (0 : Int32)) dr_findReturn_141 rfl (fun _ E' k' => ?_) (fun _ E' k' => ?_) ?_
  · refine xw_iconst dr_findReturn_148 ki_0 ?_
    exact k'
  · refine xw_iconst dr_findReturn_144 ki_1 ?_
    refine xw_goto dr_findReturn_145 rfl ?_
    exact k'
  refine xw_bipush dr_findReturn_149 kb_11 ?_
  refine xw_iload2 dr_findReturn_151 ?_
  refine xw_cTu dr_findReturn_152 (lk_r_findReturn_152 (xl_n hn (by decide)) rfl) ok_x_refuse (mx_refuse hl hn) ⟨Nat.le_of_ble_eq_true rfl, Nat.le_of_ble_eq_true rfl⟩ rfl (fun b12 s13 h_s13 => ?_)
  have hJ_s13 : jx_J s13 := xj_o (jx_refuse hJ_s11) h_s13
  exact xw_vret dr_findReturn_155 rfl
theorem jr_findReturn {a1 : Int32} {σ : xs_S} (hJ : jx_J σ) : jx_J (fr_findReturn a1 σ).2 := by
  unfold fr_findReturn
  refine xj_l (fun v1 e_v1 => ?_)
  refine xj_l (fun v2 e_v2 => ?_)
  refine xj_b (jx_refuse hJ) (fun b3 s4 h_s4 hJ_s4 => ?_)
  refine xj_b (jx_refuse hJ_s4) (fun b5 s6 h_s6 hJ_s6 => ?_)
  refine xj_b (jr_lookUp hJ_s6) (fun b7 s8 h_s8 hJ_s8 => ?_)
  refine xj_l (fun v9 e_v9 => ?_)
  refine xj_b (jx_refuse hJ_s8) (fun b10 s11 h_s11 hJ_s11 => ?_)
  refine xj_b (jx_refuse hJ_s11) (fun b12 s13 h_s13 hJ_s13 => ?_)
  exact hJ_s13
def fr_findOuterStack (a1 : Int32) (a2 : Int32) (σ : xs_S) : xp_P Unit := xl_l ((fr_codeOf a1 σ)) (fun v1 => xp_b (fx_refuse (fr_isNull a1 σ) (13 : Int32) (0 : Int32) σ) (fun b2 s3 => xp_b (fr_lookUp a1 15 s3) (fun b4 s5 => xl_l ((if (fr_rplOf a1 s5) = a2 then (if (s5 15 3) = (4 : Int32) then (if (s5 15 4) = a2 then (1 : Int32) else (0 : Int32)) else (0 : Int32)) else (0 : Int32))) (fun v6 => xp_b (fx_refuse (if v6 = 0 then (1 : Int32) else (0 : Int32)) (13 : Int32) v1 s5) (fun b7 s8 => xp_b (fx_refuse (if (s8 15 6) = 0 then (1 : Int32) else (0 : Int32)) (12 : Int32) v1 s8) (fun b9 s10 => (some (), s10)))))))
set_option maxRecDepth 100000 in
set_option maxHeartbeats 4000000 in
theorem mr_findOuterStack {l : Launch} {N n u : Nat} {a1 : Int32} {a2 : Int32} {σ : xs_S} (hl : l.stackTraces = false) (hn : 29 ≤ n) (hJ : jx_J σ) : xm_m (xk_k N) l tr_findOuterStack [.ref 1, .int a1, .int a2] (n, u, σ, xr_0) (xe_t eu_u n u (fr_findOuterStack a1 a2 σ)) := by
  refine xm_of hl ok_r_findOuterStack (Nat.le_of_ble_eq_true rfl) ?_
  show xw_w (xk_k N) l tr_findOuterStack 0 [some (.ref 1), some (.int a1), some (.int a2), none, none] [] (n, u, σ, xr_0) (xe_t eu_u n u (fr_findOuterStack a1 a2 σ))
  unfold fr_findOuterStack
  refine xw_iload1 dr_findOuterStack_0 ?_
  refine xw_cVi dr_findOuterStack_1 (lk_r_findOuterStack_1) ok_r_codeOf (mr_codeOf hl hn) ⟨Nat.le_of_ble_eq_true rfl, Nat.le_of_ble_eq_true rfl⟩ ?_
  refine xw_li (fun v1 e_v1 => ?_)
  refine xw_istore3 dr_findOuterStack_4 (Nat.le_of_ble_eq_true rfl) rfl ?_
  refine xw_aload0 dr_findOuterStack_5 ?_
  refine xw_getR dr_findOuterStack_6 fl_r_10 (xl_n hn (by decide)) rfl r_1_0 ?_
  refine xw_iload1 dr_findOuterStack_9 ?_
  refine xw_cVi dr_findOuterStack_10 (lk_r_findOuterStack_10) ok_r_isNull (mr_isNull hl hn) ⟨Nat.le_of_ble_eq_true rfl, Nat.le_of_ble_eq_true rfl⟩ ?_
  refine xw_bipush dr_findOuterStack_13 kb_13 ?_
  refine xw_iconst dr_findOuterStack_15 ki_0 ?_
  refine xw_cTu dr_findOuterStack_16 (lk_r_findOuterStack_16 (xl_n hn (by decide)) rfl) ok_x_refuse (mx_refuse hl hn) ⟨Nat.le_of_ble_eq_true rfl, Nat.le_of_ble_eq_true rfl⟩ rfl (fun b2 s3 h_s3 => ?_)
  have hJ_s3 : jx_J s3 := xj_o (jx_refuse hJ) h_s3
  refine xw_aload0 dr_findOuterStack_19 ?_
  refine xw_iload1 dr_findOuterStack_20 ?_
  refine xw_aload0 dr_findOuterStack_21 ?_
  refine xw_getR dr_findOuterStack_22 fl_r_45 (xl_n hn (by decide)) rfl r_1_6 ?_
  refine xw_cTu dr_findOuterStack_25 (lk_r_findOuterStack_25 (xl_n hn (by decide)) rfl) ok_r_lookUp (mr_lookUp hl hn (by decide) (xl_n hn (by decide)) rfl hJ_s3) ⟨Nat.le_of_ble_eq_true rfl, Nat.le_of_ble_eq_true rfl⟩ rfl (fun b4 s5 h_s5 => ?_)
  have hJ_s5 : jx_J s5 := xj_o (jr_lookUp hJ_s3) h_s5
  refine xw_iload1 dr_findOuterStack_28 ?_
  refine xw_cVi dr_findOuterStack_29 (lk_r_findOuterStack_29) ok_r_rplOf (mr_rplOf hl hn) ⟨Nat.le_of_ble_eq_true rfl, Nat.le_of_ble_eq_true rfl⟩ ?_
  refine xw_iload2 dr_findOuterStack_32 ?_
  refine xw_icmp_ne_mi (J := 63) (a := (if (s5 15 3) = (4 : Int32) then (if (s5 15 4) = a2 then (1 : Int32) else (0 : Int32)) else (0 : Int32))) (b := (0 : Int32)) dr_findOuterStack_33 rfl (fun _ E' k' => ?_) (fun _ E' k' => ?_) ?_
  · refine xw_iconst dr_findOuterStack_62 ki_0 ?_
    exact k'
  · refine xw_aload0 dr_findOuterStack_36 ?_
    refine xw_getR dr_findOuterStack_37 fl_r_45 (xl_n hn (by decide)) rfl r_1_6 ?_
    refine xw_getI dr_findOuterStack_40 fl_r_179 (by decide) (xl_n hn (by decide)) rfl ?_
    refine xw_iconst dr_findOuterStack_43 ki_4 ?_
    refine xw_icmp_ne_mi (J := 63) (a := (if (s5 15 4) = a2 then (1 : Int32) else (0 : Int32))) (b := (0 : Int32)) dr_findOuterStack_44 rfl (fun _ E' k' => ?_) (fun _ E' k' => ?_) ?_
    · refine xw_iconst dr_findOuterStack_62 ki_0 ?_
      exact k'
    · refine xw_aload0 dr_findOuterStack_47 ?_
      refine xw_getR dr_findOuterStack_48 fl_r_45 (xl_n hn (by decide)) rfl r_1_6 ?_
      refine xw_getI dr_findOuterStack_51 fl_r_182 (by decide) (xl_n hn (by decide)) rfl ?_
      refine xw_iload2 dr_findOuterStack_54 ?_
      refine xw_icmp_ne_mi (J := 63) (a := (1 : Int32)) (b := (0 : Int32)) dr_findOuterStack_55 rfl (fun _ E' k' => ?_) (fun _ E' k' => ?_) ?_
      · refine xw_iconst dr_findOuterStack_62 ki_0 ?_
        exact k'
      · refine xw_iconst dr_findOuterStack_58 ki_1 ?_
        refine xw_goto dr_findOuterStack_59 rfl ?_
        exact k'
      exact k'
    exact k'
  refine xw_li (fun v6 e_v6 => ?_)
  refine xw_istore4 dr_findOuterStack_63 (Nat.le_of_ble_eq_true rfl) rfl ?_
  refine xw_aload0 dr_findOuterStack_65 ?_
  refine xw_getR dr_findOuterStack_66 fl_r_10 (xl_n hn (by decide)) rfl r_1_0 ?_
  refine xw_iload4 dr_findOuterStack_69 ?_
  refine xw_if_ne_mi (J := 79) (a := (1 : Int32)) (b := (0 : Int32)) dr_findOuterStack_71 rfl (fun _ E' k' => ?_) (fun _ E' k' => ?_) ?_
  · refine xw_iconst dr_findOuterStack_78 ki_0 ?_
    exact k'
  · refine xw_iconst dr_findOuterStack_74 ki_1 ?_
    refine xw_goto dr_findOuterStack_75 rfl ?_
    exact k'
  refine xw_bipush dr_findOuterStack_79 kb_13 ?_
  refine xw_iload3 dr_findOuterStack_81 ?_
  refine xw_cTu dr_findOuterStack_82 (lk_r_findOuterStack_82 (xl_n hn (by decide)) rfl) ok_x_refuse (mx_refuse hl hn) ⟨Nat.le_of_ble_eq_true rfl, Nat.le_of_ble_eq_true rfl⟩ rfl (fun b7 s8 h_s8 => ?_)
  have hJ_s8 : jx_J s8 := xj_o (jx_refuse hJ_s5) h_s8
  refine xw_aload0 dr_findOuterStack_85 ?_
  refine xw_getR dr_findOuterStack_86 fl_r_10 (xl_n hn (by decide)) rfl r_1_0 ?_
  refine xw_aload0 dr_findOuterStack_89 ?_
  refine xw_getR dr_findOuterStack_90 fl_r_45 (xl_n hn (by decide)) rfl r_1_6 ?_
  refine xw_getI dr_findOuterStack_93 fl_r_231 (by decide) (xl_n hn (by decide)) rfl ?_
  refine xw_if_ne_mi (J := 104) (a := (1 : Int32)) (b := (0 : Int32)) dr_findOuterStack_96 rfl (fun _ E' k' => ?_) (fun _ E' k' => ?_) ?_
  · refine xw_iconst dr_findOuterStack_103 ki_0 ?_
    exact k'
  · refine xw_iconst dr_findOuterStack_99 ki_1 ?_
    refine xw_goto dr_findOuterStack_100 rfl ?_
    exact k'
  refine xw_bipush dr_findOuterStack_104 kb_12 ?_
  refine xw_iload3 dr_findOuterStack_106 ?_
  refine xw_cTu dr_findOuterStack_107 (lk_r_findOuterStack_107 (xl_n hn (by decide)) rfl) ok_x_refuse (mx_refuse hl hn) ⟨Nat.le_of_ble_eq_true rfl, Nat.le_of_ble_eq_true rfl⟩ rfl (fun b9 s10 h_s10 => ?_)
  have hJ_s10 : jx_J s10 := xj_o (jx_refuse hJ_s8) h_s10
  exact xw_vret dr_findOuterStack_110 rfl
theorem jr_findOuterStack {a1 : Int32} {a2 : Int32} {σ : xs_S} (hJ : jx_J σ) : jx_J (fr_findOuterStack a1 a2 σ).2 := by
  unfold fr_findOuterStack
  refine xj_l (fun v1 e_v1 => ?_)
  refine xj_b (jx_refuse hJ) (fun b2 s3 h_s3 hJ_s3 => ?_)
  refine xj_b (jr_lookUp hJ_s3) (fun b4 s5 h_s5 hJ_s5 => ?_)
  refine xj_l (fun v6 e_v6 => ?_)
  refine xj_b (jx_refuse hJ_s5) (fun b7 s8 h_s8 hJ_s8 => ?_)
  refine xj_b (jx_refuse hJ_s8) (fun b9 s10 h_s10 hJ_s10 => ?_)
  exact hJ_s10
def fr_hideData (σ : xs_S) : xs_S := xl_l ((if (fr_isNull (σ 6 0) σ) = 0 then (if (σ 6 3) = (2 : Int32) then (1 : Int32) else (0 : Int32)) else (1 : Int32))) (fun v1 => (if v1 = 0 then (if (σ 3 6) ≤ (σ 6 4) then σ else xl_l ((fd_clear 6 σ)) (fun s4 => s4)) else σ))
set_option maxRecDepth 100000 in
set_option maxHeartbeats 4000000 in
theorem mr_hideData {l : Launch} {N n u : Nat} {σ : xs_S} (hl : l.stackTraces = false) (hn : 29 ≤ n) : xm_m (xk_k N) l tr_hideData [.ref 1] (n, u, σ, xr_0) (xe_w n u (fr_hideData σ)) := by
  refine xm_of hl ok_r_hideData (Nat.le_of_ble_eq_true rfl) ?_
  show xw_w (xk_k N) l tr_hideData 0 [some (.ref 1), none] [] (n, u, σ, xr_0) (xe_w n u (fr_hideData σ))
  unfold fr_hideData
  refine xw_aload0 dr_hideData_0 ?_
  refine xw_getR dr_hideData_1 fl_r_19 (xl_n hn (by decide)) rfl r_1_1 ?_
  refine xw_getR dr_hideData_4 fl_r_148 (xl_n hn (by decide)) rfl r_3_2 ?_
  refine xw_getI dr_hideData_7 fl_r_142 (by decide) (xl_n hn (by decide)) rfl ?_
  refine xw_cVi dr_hideData_10 (lk_r_hideData_10) ok_r_isNull (mr_isNull hl hn) ⟨Nat.le_of_ble_eq_true rfl, Nat.le_of_ble_eq_true rfl⟩ ?_
  refine xw_if_ne_mi (J := 35) (a := (if (σ 6 3) = (2 : Int32) then (1 : Int32) else (0 : Int32))) (b := (1 : Int32)) dr_hideData_13 rfl (fun _ E' k' => ?_) (fun _ E' k' => ?_) ?_
  · refine xw_iconst dr_hideData_30 ki_1 ?_
    refine xw_goto dr_hideData_31 rfl ?_
    exact k'
  · refine xw_aload0 dr_hideData_16 ?_
    refine xw_getR dr_hideData_17 fl_r_19 (xl_n hn (by decide)) rfl r_1_1 ?_
    refine xw_getR dr_hideData_20 fl_r_148 (xl_n hn (by decide)) rfl r_3_2 ?_
    refine xw_getI dr_hideData_23 fl_r_179 (by decide) (xl_n hn (by decide)) rfl ?_
    refine xw_iconst dr_hideData_26 ki_2 ?_
    refine xw_icmp_ne_mi (J := 35) (a := (1 : Int32)) (b := (0 : Int32)) dr_hideData_27 rfl (fun _ E' k' => ?_) (fun _ E' k' => ?_) ?_
    · refine xw_iconst dr_hideData_34 ki_0 ?_
      exact k'
    · refine xw_iconst dr_hideData_30 ki_1 ?_
      refine xw_goto dr_hideData_31 rfl ?_
      exact k'
    exact k'
  refine xw_li (fun v1 e_v1 => ?_)
  refine xw_istore1 dr_hideData_35 (Nat.le_of_ble_eq_true rfl) rfl ?_
  refine xw_iload1 dr_hideData_36 ?_
  refine xw_if_ne' dr_hideData_37 rfl (fun h2 => ?_) (fun h2 => ?_)
  · exact xw_vret dr_hideData_70 rfl
  · refine xw_aload0 dr_hideData_40 ?_
    refine xw_getR dr_hideData_41 fl_r_19 (xl_n hn (by decide)) rfl r_1_1 ?_
    refine xw_getR dr_hideData_44 fl_r_148 (xl_n hn (by decide)) rfl r_3_2 ?_
    refine xw_getI dr_hideData_47 fl_r_182 (by decide) (xl_n hn (by decide)) rfl ?_
    refine xw_aload0 dr_hideData_50 ?_
    refine xw_getR dr_hideData_51 fl_r_19 (xl_n hn (by decide)) rfl r_1_1 ?_
    refine xw_getI dr_hideData_54 fl_r_157 (by decide) (xl_n hn (by decide)) rfl ?_
    refine xw_icmp_ge' dr_hideData_57 rfl (fun h3 => ?_) (fun h3 => ?_)
    · exact xw_vret dr_hideData_70 rfl
    · refine xw_aload0 dr_hideData_60 ?_
      refine xw_getR dr_hideData_61 fl_r_19 (xl_n hn (by decide)) rfl r_1_1 ?_
      refine xw_getR dr_hideData_64 fl_r_148 (xl_n hn (by decide)) rfl r_3_2 ?_
      refine xw_cW dr_hideData_67 (lk_r_hideData_67 (xl_n hn (by decide)) rfl) ok_d_clear (md_clear hl hn (by decide) (xl_n hn (by decide)) rfl) ⟨Nat.le_of_ble_eq_true rfl, Nat.le_of_ble_eq_true rfl⟩ ?_
      refine xw_lw (fun s4 e_s4 => ?_)
      exact xw_vret dr_hideData_70 rfl
theorem jr_hideData {σ : xs_S} (hJ : jx_J σ) : jx_J (fr_hideData σ) := by
  unfold fr_hideData
  refine xj_wl (fun v1 e_v1 => ?_)
  refine xj_wf (fun h2 => ?_) (fun h2 => ?_)
  · refine xj_wf (fun h3 => ?_) (fun h3 => ?_)
    · exact hJ
    · refine xj_wl (fun s4 e_s4 => ?_)
      have hJ_s4 : jx_J s4 := by rw [e_s4]; exact (jd_clear hJ)
      exact hJ_s4
  · exact hJ
def fr_goBack (a1 : Int32) (σ : xs_S) : xp_P Unit := xp_b (fr_popWord σ) (fun b1 s2 => xp_b (fr_popWord s2) (fun b3 s4 => (if a1 = 0 then xl_l ((fr_rplOf b3 s4)) (fun v6 => xp_b (fr_findReturn b3 s4) (fun b7 s8 => xl_l ((if v6 ≤ (s8 3 6) then (0 : Int32) else (1 : Int32))) (fun v9 => (if v9 = 0 then xl_l ((xu_u s8 3 6 v6)) (fun s11 => xp_b (fr_enter 14 b1 s11) (fun b12 s13 => (some (), s13))) else xp_b (fr_popWord s8) (fun b14 s15 => xp_b (fr_popWord s15) (fun b16 s17 => xp_b (fr_findOuterStack b16 v6 s17) (fun b18 s19 => xl_l ((fd_copy 5 15 s19)) (fun s20 => xl_l ((xu_u s20 3 3 b14)) (fun s21 => xl_l ((xu_u s21 3 6 v6)) (fun s22 => xp_b (fr_enter 14 b1 s22) (fun b23 s24 => xl_l ((fr_hideData s24)) (fun s25 => (some (), s25))))))))))))) else xp_b (fr_popWord s4) (fun b26 s27 => xl_l ((xu_u s27 3 5 (b26 &&& (3 : Int32)))) (fun s28 => xl_l ((fr_rplOf b3 s28)) (fun v29 => xp_b (fr_findReturn b3 s28) (fun b30 s31 => xl_l ((if v29 ≤ (s31 3 6) then (0 : Int32) else (1 : Int32))) (fun v32 => (if v32 = 0 then xl_l ((xu_u s31 3 6 v29)) (fun s34 => xp_b (fr_enter 14 b1 s34) (fun b35 s36 => (some (), s36))) else xp_b (fr_popWord s31) (fun b37 s38 => xp_b (fr_popWord s38) (fun b39 s40 => xp_b (fr_findOuterStack b39 v29 s40) (fun b41 s42 => xl_l ((fd_copy 5 15 s42)) (fun s43 => xl_l ((xu_u s43 3 3 b37)) (fun s44 => xl_l ((xu_u s44 3 6 v29)) (fun s45 => xp_b (fr_enter 14 b1 s45) (fun b46 s47 => xl_l ((fr_hideData s47)) (fun s48 => (some (), s48))))))))))))))))))
set_option maxRecDepth 100000 in
set_option maxHeartbeats 4000000 in
theorem mr_goBack {l : Launch} {N n u : Nat} {a1 : Int32} {σ : xs_S} (hl : l.stackTraces = false) (hn : 29 ≤ n) (hJ : jx_J σ) : xm_m (xk_k N) l tr_goBack [.ref 1, .int a1] (n, u, σ, xr_0) (xe_t eu_u n u (fr_goBack a1 σ)) := by
  refine xm_of hl ok_r_goBack (Nat.le_of_ble_eq_true rfl) ?_
  show xw_w (xk_k N) l tr_goBack 0 [some (.ref 1), some (.int a1), none, none, none, none, none] [] (n, u, σ, xr_0) (xe_t eu_u n u (fr_goBack a1 σ))
  unfold fr_goBack
  refine xw_aload0 dr_goBack_0 ?_
  refine xw_cTi dr_goBack_1 (lk_r_goBack_1 (xl_n hn (by decide)) rfl) ok_r_popWord (mr_popWord hl hn hJ) ⟨Nat.le_of_ble_eq_true rfl, Nat.le_of_ble_eq_true rfl⟩ rfl (fun b1 s2 h_s2 => ?_)
  have hJ_s2 : jx_J s2 := xj_o (jr_popWord hJ) h_s2
  refine xw_istore2 dr_goBack_4 (Nat.le_of_ble_eq_true rfl) rfl ?_
  refine xw_aload0 dr_goBack_5 ?_
  refine xw_cTi dr_goBack_6 (lk_r_goBack_6 (xl_n hn (by decide)) rfl) ok_r_popWord (mr_popWord hl hn hJ_s2) ⟨Nat.le_of_ble_eq_true rfl, Nat.le_of_ble_eq_true rfl⟩ rfl (fun b3 s4 h_s4 => ?_)
  have hJ_s4 : jx_J s4 := xj_o (jr_popWord hJ_s2) h_s4
  refine xw_istore3 dr_goBack_9 (Nat.le_of_ble_eq_true rfl) rfl ?_
  refine xw_iload1 dr_goBack_10 ?_
  refine xw_if_eq' dr_goBack_11 rfl (fun h5 => ?_) (fun h5 => ?_)
  · refine xw_iload3 dr_goBack_27 ?_
    refine xw_cVi dr_goBack_28 (lk_r_goBack_28) ok_r_rplOf (mr_rplOf hl hn) ⟨Nat.le_of_ble_eq_true rfl, Nat.le_of_ble_eq_true rfl⟩ ?_
    refine xw_li (fun v6 e_v6 => ?_)
    refine xw_istore4 dr_goBack_31 (Nat.le_of_ble_eq_true rfl) rfl ?_
    refine xw_aload0 dr_goBack_33 ?_
    refine xw_iload3 dr_goBack_34 ?_
    refine xw_cTu dr_goBack_35 (lk_r_goBack_35 (xl_n hn (by decide)) rfl) ok_r_findReturn (mr_findReturn hl hn hJ_s4) ⟨Nat.le_of_ble_eq_true rfl, Nat.le_of_ble_eq_true rfl⟩ rfl (fun b7 s8 h_s8 => ?_)
    have hJ_s8 : jx_J s8 := xj_o (jr_findReturn hJ_s4) h_s8
    refine xw_iload4 dr_goBack_38 ?_
    refine xw_aload0 dr_goBack_40 ?_
    refine xw_getR dr_goBack_41 fl_r_19 (xl_n hn (by decide)) rfl r_1_1 ?_
    refine xw_getI dr_goBack_44 fl_r_157 (by decide) (xl_n hn (by decide)) rfl ?_
    refine xw_icmp_le_mi (J := 55) (a := (0 : Int32)) (b := (1 : Int32)) dr_goBack_47 rfl (fun _ E' k' => ?_) (fun _ E' k' => ?_) ?_
    · refine xw_iconst dr_goBack_54 ki_0 ?_
      exact k'
    · refine xw_iconst dr_goBack_50 ki_1 ?_
      refine xw_goto dr_goBack_51 rfl ?_
      exact k'
    refine xw_li (fun v9 e_v9 => ?_)
    refine xw_istore5 dr_goBack_55 (Nat.le_of_ble_eq_true rfl) rfl ?_
    refine xw_iload5 dr_goBack_57 ?_
    refine xw_if_eq' dr_goBack_59 rfl (fun h10 => ?_) (fun h10 => ?_)
    · refine xw_aload0 dr_goBack_101 ?_
      refine xw_getR dr_goBack_102 fl_r_19 (xl_n hn (by decide)) rfl r_1_1 ?_
      refine xw_iload4 dr_goBack_105 ?_
      refine xw_putI dr_goBack_107 fl_r_157 nf_3_6 (by decide) (xl_n hn (by decide)) rfl ?_
      refine xw_lw (fun s11 e_s11 => ?_)
      have hJ_s11 : jx_J s11 := by rw [e_s11]; exact (jx_u hJ_s8 (by decide))
      refine xw_aload0 dr_goBack_110 ?_
      refine xw_aload0 dr_goBack_111 ?_
      refine xw_getR dr_goBack_112 fl_r_42 (xl_n hn (by decide)) rfl r_1_5 ?_
      refine xw_iload2 dr_goBack_115 ?_
      refine xw_cTu dr_goBack_116 (lk_r_goBack_116 (xl_n hn (by decide)) rfl) ok_r_enter (mr_enter hl hn (by decide) (xl_n hn (by decide)) rfl hJ_s11) ⟨Nat.le_of_ble_eq_true rfl, Nat.le_of_ble_eq_true rfl⟩ rfl (fun b12 s13 h_s13 => ?_)
      have hJ_s13 : jx_J s13 := xj_o (jr_enter hJ_s11) h_s13
      refine xw_iload5 dr_goBack_119 ?_
      refine xw_if_eq_t dr_goBack_121 rfl h10 ?_
      exact xw_vret dr_goBack_128 rfl
    · refine xw_aload0 dr_goBack_62 ?_
      refine xw_cTi dr_goBack_63 (lk_r_goBack_63 (xl_n hn (by decide)) rfl) ok_r_popWord (mr_popWord hl hn hJ_s8) ⟨Nat.le_of_ble_eq_true rfl, Nat.le_of_ble_eq_true rfl⟩ rfl (fun b14 s15 h_s15 => ?_)
      have hJ_s15 : jx_J s15 := xj_o (jr_popWord hJ_s8) h_s15
      refine xw_istore6 dr_goBack_66 (Nat.le_of_ble_eq_true rfl) rfl ?_
      refine xw_aload0 dr_goBack_68 ?_
      refine xw_aload0 dr_goBack_69 ?_
      refine xw_cTi dr_goBack_70 (lk_r_goBack_70 (xl_n hn (by decide)) rfl) ok_r_popWord (mr_popWord hl hn hJ_s15) ⟨Nat.le_of_ble_eq_true rfl, Nat.le_of_ble_eq_true rfl⟩ rfl (fun b16 s17 h_s17 => ?_)
      have hJ_s17 : jx_J s17 := xj_o (jr_popWord hJ_s15) h_s17
      refine xw_iload4 dr_goBack_73 ?_
      refine xw_cTu dr_goBack_75 (lk_r_goBack_75 (xl_n hn (by decide)) rfl) ok_r_findOuterStack (mr_findOuterStack hl hn hJ_s17) ⟨Nat.le_of_ble_eq_true rfl, Nat.le_of_ble_eq_true rfl⟩ rfl (fun b18 s19 h_s19 => ?_)
      have hJ_s19 : jx_J s19 := xj_o (jr_findOuterStack hJ_s17) h_s19
      refine xw_aload0 dr_goBack_78 ?_
      refine xw_getR dr_goBack_79 fl_r_19 (xl_n hn (by decide)) rfl r_1_1 ?_
      refine xw_getR dr_goBack_82 fl_r_145 (xl_n hn (by decide)) rfl r_3_1 ?_
      refine xw_aload0 dr_goBack_85 ?_
      refine xw_getR dr_goBack_86 fl_r_45 (xl_n hn (by decide)) rfl r_1_6 ?_
      refine xw_cW dr_goBack_89 (lk_r_goBack_89 (xl_n hn (by decide)) rfl) ok_d_copy (md_copy hl hn (by decide) (xl_n hn (by decide)) rfl (by decide) (xl_n hn (by decide)) rfl) ⟨Nat.le_of_ble_eq_true rfl, Nat.le_of_ble_eq_true rfl⟩ ?_
      refine xw_lw (fun s20 e_s20 => ?_)
      have hJ_s20 : jx_J s20 := by rw [e_s20]; exact (jd_copy (by decide) hJ_s19)
      refine xw_aload0 dr_goBack_92 ?_
      refine xw_getR dr_goBack_93 fl_r_19 (xl_n hn (by decide)) rfl r_1_1 ?_
      refine xw_iload6 dr_goBack_96 ?_
      refine xw_putI dr_goBack_98 fl_r_151 nf_3_3 (by decide) (xl_n hn (by decide)) rfl ?_
      refine xw_lw (fun s21 e_s21 => ?_)
      have hJ_s21 : jx_J s21 := by rw [e_s21]; exact (jx_u hJ_s20 (by decide))
      refine xw_aload0 dr_goBack_101 ?_
      refine xw_getR dr_goBack_102 fl_r_19 (xl_n hn (by decide)) rfl r_1_1 ?_
      refine xw_iload4 dr_goBack_105 ?_
      refine xw_putI dr_goBack_107 fl_r_157 nf_3_6 (by decide) (xl_n hn (by decide)) rfl ?_
      refine xw_lw (fun s22 e_s22 => ?_)
      have hJ_s22 : jx_J s22 := by rw [e_s22]; exact (jx_u hJ_s21 (by decide))
      refine xw_aload0 dr_goBack_110 ?_
      refine xw_aload0 dr_goBack_111 ?_
      refine xw_getR dr_goBack_112 fl_r_42 (xl_n hn (by decide)) rfl r_1_5 ?_
      refine xw_iload2 dr_goBack_115 ?_
      refine xw_cTu dr_goBack_116 (lk_r_goBack_116 (xl_n hn (by decide)) rfl) ok_r_enter (mr_enter hl hn (by decide) (xl_n hn (by decide)) rfl hJ_s22) ⟨Nat.le_of_ble_eq_true rfl, Nat.le_of_ble_eq_true rfl⟩ rfl (fun b23 s24 h_s24 => ?_)
      have hJ_s24 : jx_J s24 := xj_o (jr_enter hJ_s22) h_s24
      refine xw_iload5 dr_goBack_119 ?_
      refine xw_if_eq_f dr_goBack_121 rfl h10 ?_
      refine xw_aload0 dr_goBack_124 ?_
      refine xw_cW dr_goBack_125 (lk_r_goBack_125 (xl_n hn (by decide)) rfl) ok_r_hideData (mr_hideData hl hn) ⟨Nat.le_of_ble_eq_true rfl, Nat.le_of_ble_eq_true rfl⟩ ?_
      refine xw_lw (fun s25 e_s25 => ?_)
      have hJ_s25 : jx_J s25 := by rw [e_s25]; exact (jr_hideData hJ_s24)
      exact xw_vret dr_goBack_128 rfl
  · refine xw_aload0 dr_goBack_14 ?_
    refine xw_getR dr_goBack_15 fl_r_19 (xl_n hn (by decide)) rfl r_1_1 ?_
    refine xw_aload0 dr_goBack_18 ?_
    refine xw_cTi dr_goBack_19 (lk_r_goBack_19 (xl_n hn (by decide)) rfl) ok_r_popWord (mr_popWord hl hn hJ_s4) ⟨Nat.le_of_ble_eq_true rfl, Nat.le_of_ble_eq_true rfl⟩ rfl (fun b26 s27 h_s27 => ?_)
    have hJ_s27 : jx_J s27 := xj_o (jr_popWord hJ_s4) h_s27
    refine xw_iconst dr_goBack_22 ki_3 ?_
    refine xw_iand dr_goBack_23 ?_
    refine xw_putI dr_goBack_24 fl_r_133 nf_3_5 (by decide) (xl_n hn (by decide)) rfl ?_
    refine xw_lw (fun s28 e_s28 => ?_)
    have hJ_s28 : jx_J s28 := by rw [e_s28]; exact (jx_u hJ_s27 (by decide))
    refine xw_iload3 dr_goBack_27 ?_
    refine xw_cVi dr_goBack_28 (lk_r_goBack_28) ok_r_rplOf (mr_rplOf hl hn) ⟨Nat.le_of_ble_eq_true rfl, Nat.le_of_ble_eq_true rfl⟩ ?_
    refine xw_li (fun v29 e_v29 => ?_)
    refine xw_istore4 dr_goBack_31 (Nat.le_of_ble_eq_true rfl) rfl ?_
    refine xw_aload0 dr_goBack_33 ?_
    refine xw_iload3 dr_goBack_34 ?_
    refine xw_cTu dr_goBack_35 (lk_r_goBack_35 (xl_n hn (by decide)) rfl) ok_r_findReturn (mr_findReturn hl hn hJ_s28) ⟨Nat.le_of_ble_eq_true rfl, Nat.le_of_ble_eq_true rfl⟩ rfl (fun b30 s31 h_s31 => ?_)
    have hJ_s31 : jx_J s31 := xj_o (jr_findReturn hJ_s28) h_s31
    refine xw_iload4 dr_goBack_38 ?_
    refine xw_aload0 dr_goBack_40 ?_
    refine xw_getR dr_goBack_41 fl_r_19 (xl_n hn (by decide)) rfl r_1_1 ?_
    refine xw_getI dr_goBack_44 fl_r_157 (by decide) (xl_n hn (by decide)) rfl ?_
    refine xw_icmp_le_mi (J := 55) (a := (0 : Int32)) (b := (1 : Int32)) dr_goBack_47 rfl (fun _ E' k' => ?_) (fun _ E' k' => ?_) ?_
    · refine xw_iconst dr_goBack_54 ki_0 ?_
      exact k'
    · refine xw_iconst dr_goBack_50 ki_1 ?_
      refine xw_goto dr_goBack_51 rfl ?_
      exact k'
    refine xw_li (fun v32 e_v32 => ?_)
    refine xw_istore5 dr_goBack_55 (Nat.le_of_ble_eq_true rfl) rfl ?_
    refine xw_iload5 dr_goBack_57 ?_
    refine xw_if_eq' dr_goBack_59 rfl (fun h33 => ?_) (fun h33 => ?_)
    · refine xw_aload0 dr_goBack_101 ?_
      refine xw_getR dr_goBack_102 fl_r_19 (xl_n hn (by decide)) rfl r_1_1 ?_
      refine xw_iload4 dr_goBack_105 ?_
      refine xw_putI dr_goBack_107 fl_r_157 nf_3_6 (by decide) (xl_n hn (by decide)) rfl ?_
      refine xw_lw (fun s34 e_s34 => ?_)
      have hJ_s34 : jx_J s34 := by rw [e_s34]; exact (jx_u hJ_s31 (by decide))
      refine xw_aload0 dr_goBack_110 ?_
      refine xw_aload0 dr_goBack_111 ?_
      refine xw_getR dr_goBack_112 fl_r_42 (xl_n hn (by decide)) rfl r_1_5 ?_
      refine xw_iload2 dr_goBack_115 ?_
      refine xw_cTu dr_goBack_116 (lk_r_goBack_116 (xl_n hn (by decide)) rfl) ok_r_enter (mr_enter hl hn (by decide) (xl_n hn (by decide)) rfl hJ_s34) ⟨Nat.le_of_ble_eq_true rfl, Nat.le_of_ble_eq_true rfl⟩ rfl (fun b35 s36 h_s36 => ?_)
      have hJ_s36 : jx_J s36 := xj_o (jr_enter hJ_s34) h_s36
      refine xw_iload5 dr_goBack_119 ?_
      refine xw_if_eq_t dr_goBack_121 rfl h33 ?_
      exact xw_vret dr_goBack_128 rfl
    · refine xw_aload0 dr_goBack_62 ?_
      refine xw_cTi dr_goBack_63 (lk_r_goBack_63 (xl_n hn (by decide)) rfl) ok_r_popWord (mr_popWord hl hn hJ_s31) ⟨Nat.le_of_ble_eq_true rfl, Nat.le_of_ble_eq_true rfl⟩ rfl (fun b37 s38 h_s38 => ?_)
      have hJ_s38 : jx_J s38 := xj_o (jr_popWord hJ_s31) h_s38
      refine xw_istore6 dr_goBack_66 (Nat.le_of_ble_eq_true rfl) rfl ?_
      refine xw_aload0 dr_goBack_68 ?_
      refine xw_aload0 dr_goBack_69 ?_
      refine xw_cTi dr_goBack_70 (lk_r_goBack_70 (xl_n hn (by decide)) rfl) ok_r_popWord (mr_popWord hl hn hJ_s38) ⟨Nat.le_of_ble_eq_true rfl, Nat.le_of_ble_eq_true rfl⟩ rfl (fun b39 s40 h_s40 => ?_)
      have hJ_s40 : jx_J s40 := xj_o (jr_popWord hJ_s38) h_s40
      refine xw_iload4 dr_goBack_73 ?_
      refine xw_cTu dr_goBack_75 (lk_r_goBack_75 (xl_n hn (by decide)) rfl) ok_r_findOuterStack (mr_findOuterStack hl hn hJ_s40) ⟨Nat.le_of_ble_eq_true rfl, Nat.le_of_ble_eq_true rfl⟩ rfl (fun b41 s42 h_s42 => ?_)
      have hJ_s42 : jx_J s42 := xj_o (jr_findOuterStack hJ_s40) h_s42
      refine xw_aload0 dr_goBack_78 ?_
      refine xw_getR dr_goBack_79 fl_r_19 (xl_n hn (by decide)) rfl r_1_1 ?_
      refine xw_getR dr_goBack_82 fl_r_145 (xl_n hn (by decide)) rfl r_3_1 ?_
      refine xw_aload0 dr_goBack_85 ?_
      refine xw_getR dr_goBack_86 fl_r_45 (xl_n hn (by decide)) rfl r_1_6 ?_
      refine xw_cW dr_goBack_89 (lk_r_goBack_89 (xl_n hn (by decide)) rfl) ok_d_copy (md_copy hl hn (by decide) (xl_n hn (by decide)) rfl (by decide) (xl_n hn (by decide)) rfl) ⟨Nat.le_of_ble_eq_true rfl, Nat.le_of_ble_eq_true rfl⟩ ?_
      refine xw_lw (fun s43 e_s43 => ?_)
      have hJ_s43 : jx_J s43 := by rw [e_s43]; exact (jd_copy (by decide) hJ_s42)
      refine xw_aload0 dr_goBack_92 ?_
      refine xw_getR dr_goBack_93 fl_r_19 (xl_n hn (by decide)) rfl r_1_1 ?_
      refine xw_iload6 dr_goBack_96 ?_
      refine xw_putI dr_goBack_98 fl_r_151 nf_3_3 (by decide) (xl_n hn (by decide)) rfl ?_
      refine xw_lw (fun s44 e_s44 => ?_)
      have hJ_s44 : jx_J s44 := by rw [e_s44]; exact (jx_u hJ_s43 (by decide))
      refine xw_aload0 dr_goBack_101 ?_
      refine xw_getR dr_goBack_102 fl_r_19 (xl_n hn (by decide)) rfl r_1_1 ?_
      refine xw_iload4 dr_goBack_105 ?_
      refine xw_putI dr_goBack_107 fl_r_157 nf_3_6 (by decide) (xl_n hn (by decide)) rfl ?_
      refine xw_lw (fun s45 e_s45 => ?_)
      have hJ_s45 : jx_J s45 := by rw [e_s45]; exact (jx_u hJ_s44 (by decide))
      refine xw_aload0 dr_goBack_110 ?_
      refine xw_aload0 dr_goBack_111 ?_
      refine xw_getR dr_goBack_112 fl_r_42 (xl_n hn (by decide)) rfl r_1_5 ?_
      refine xw_iload2 dr_goBack_115 ?_
      refine xw_cTu dr_goBack_116 (lk_r_goBack_116 (xl_n hn (by decide)) rfl) ok_r_enter (mr_enter hl hn (by decide) (xl_n hn (by decide)) rfl hJ_s45) ⟨Nat.le_of_ble_eq_true rfl, Nat.le_of_ble_eq_true rfl⟩ rfl (fun b46 s47 h_s47 => ?_)
      have hJ_s47 : jx_J s47 := xj_o (jr_enter hJ_s45) h_s47
      refine xw_iload5 dr_goBack_119 ?_
      refine xw_if_eq_f dr_goBack_121 rfl h33 ?_
      refine xw_aload0 dr_goBack_124 ?_
      refine xw_cW dr_goBack_125 (lk_r_goBack_125 (xl_n hn (by decide)) rfl) ok_r_hideData (mr_hideData hl hn) ⟨Nat.le_of_ble_eq_true rfl, Nat.le_of_ble_eq_true rfl⟩ ?_
      refine xw_lw (fun s48 e_s48 => ?_)
      have hJ_s48 : jx_J s48 := by rw [e_s48]; exact (jr_hideData hJ_s47)
      exact xw_vret dr_goBack_128 rfl
theorem jr_goBack {a1 : Int32} {σ : xs_S} (hJ : jx_J σ) : jx_J (fr_goBack a1 σ).2 := by
  unfold fr_goBack
  refine xj_b (jr_popWord hJ) (fun b1 s2 h_s2 hJ_s2 => ?_)
  refine xj_b (jr_popWord hJ_s2) (fun b3 s4 h_s4 hJ_s4 => ?_)
  refine xj_f (fun h5 => ?_) (fun h5 => ?_)
  · refine xj_l (fun v6 e_v6 => ?_)
    refine xj_b (jr_findReturn hJ_s4) (fun b7 s8 h_s8 hJ_s8 => ?_)
    refine xj_l (fun v9 e_v9 => ?_)
    refine xj_f (fun h10 => ?_) (fun h10 => ?_)
    · refine xj_l (fun s11 e_s11 => ?_)
      have hJ_s11 : jx_J s11 := by rw [e_s11]; exact (jx_u hJ_s8 (by decide))
      refine xj_b (jr_enter hJ_s11) (fun b12 s13 h_s13 hJ_s13 => ?_)
      exact hJ_s13
    · refine xj_b (jr_popWord hJ_s8) (fun b14 s15 h_s15 hJ_s15 => ?_)
      refine xj_b (jr_popWord hJ_s15) (fun b16 s17 h_s17 hJ_s17 => ?_)
      refine xj_b (jr_findOuterStack hJ_s17) (fun b18 s19 h_s19 hJ_s19 => ?_)
      refine xj_l (fun s20 e_s20 => ?_)
      have hJ_s20 : jx_J s20 := by rw [e_s20]; exact (jd_copy (by decide) hJ_s19)
      refine xj_l (fun s21 e_s21 => ?_)
      have hJ_s21 : jx_J s21 := by rw [e_s21]; exact (jx_u hJ_s20 (by decide))
      refine xj_l (fun s22 e_s22 => ?_)
      have hJ_s22 : jx_J s22 := by rw [e_s22]; exact (jx_u hJ_s21 (by decide))
      refine xj_b (jr_enter hJ_s22) (fun b23 s24 h_s24 hJ_s24 => ?_)
      refine xj_l (fun s25 e_s25 => ?_)
      have hJ_s25 : jx_J s25 := by rw [e_s25]; exact (jr_hideData hJ_s24)
      exact hJ_s25
  · refine xj_b (jr_popWord hJ_s4) (fun b26 s27 h_s27 hJ_s27 => ?_)
    refine xj_l (fun s28 e_s28 => ?_)
    have hJ_s28 : jx_J s28 := by rw [e_s28]; exact (jx_u hJ_s27 (by decide))
    refine xj_l (fun v29 e_v29 => ?_)
    refine xj_b (jr_findReturn hJ_s28) (fun b30 s31 h_s31 hJ_s31 => ?_)
    refine xj_l (fun v32 e_v32 => ?_)
    refine xj_f (fun h33 => ?_) (fun h33 => ?_)
    · refine xj_l (fun s34 e_s34 => ?_)
      have hJ_s34 : jx_J s34 := by rw [e_s34]; exact (jx_u hJ_s31 (by decide))
      refine xj_b (jr_enter hJ_s34) (fun b35 s36 h_s36 hJ_s36 => ?_)
      exact hJ_s36
    · refine xj_b (jr_popWord hJ_s31) (fun b37 s38 h_s38 hJ_s38 => ?_)
      refine xj_b (jr_popWord hJ_s38) (fun b39 s40 h_s40 hJ_s40 => ?_)
      refine xj_b (jr_findOuterStack hJ_s40) (fun b41 s42 h_s42 hJ_s42 => ?_)
      refine xj_l (fun s43 e_s43 => ?_)
      have hJ_s43 : jx_J s43 := by rw [e_s43]; exact (jd_copy (by decide) hJ_s42)
      refine xj_l (fun s44 e_s44 => ?_)
      have hJ_s44 : jx_J s44 := by rw [e_s44]; exact (jx_u hJ_s43 (by decide))
      refine xj_l (fun s45 e_s45 => ?_)
      have hJ_s45 : jx_J s45 := by rw [e_s45]; exact (jx_u hJ_s44 (by decide))
      refine xj_b (jr_enter hJ_s45) (fun b46 s47 h_s47 hJ_s47 => ?_)
      refine xj_l (fun s48 e_s48 => ?_)
      have hJ_s48 : jx_J s48 := by rw [e_s48]; exact (jr_hideData hJ_s47)
      exact hJ_s48
def fr_endTask (σ : xs_S) : xp_P Unit := xp_b (fm_wordAt (σ 3 8) (0 : Int32) σ) (fun b1 s2 => xp_b (fx_refuse (fr_isNull b1 s2) (13 : Int32) (0 : Int32) s2) (fun b3 s4 => xp_b (fr_lookUp b1 13 s4) (fun b5 s6 => xp_b (fx_refuse (if (s6 13 3) = (5 : Int32) then (0 : Int32) else (if (s6 13 3) = (6 : Int32) then (0 : Int32) else (1 : Int32))) (13 : Int32) (0 : Int32) s6) (fun b7 s8 => xp_b (fr_switchTask (2 : Int32) s8) (fun b9 s10 => (some (), s10))))))
set_option maxRecDepth 100000 in
set_option maxHeartbeats 4000000 in
theorem mr_endTask {l : Launch} {N n u : Nat} {σ : xs_S} (hl : l.stackTraces = false) (hn : 29 ≤ n) (hJ : jx_J σ) : xm_m (xk_k N) l tr_endTask [.ref 1] (n, u, σ, xr_0) (xe_t eu_u n u (fr_endTask σ)) := by
  refine xm_of hl ok_r_endTask (Nat.le_of_ble_eq_true rfl) ?_
  show xw_w (xk_k N) l tr_endTask 0 [some (.ref 1), none] [] (n, u, σ, xr_0) (xe_t eu_u n u (fr_endTask σ))
  unfold fr_endTask
  refine xw_aload0 dr_endTask_0 ?_
  refine xw_getR dr_endTask_1 fl_r_31 (xl_n hn (by decide)) rfl r_1_3 ?_
  refine xw_aload0 dr_endTask_4 ?_
  refine xw_getR dr_endTask_5 fl_r_19 (xl_n hn (by decide)) rfl r_1_1 ?_
  refine xw_getI dr_endTask_8 fl_r_163 (by decide) (xl_n hn (by decide)) rfl ?_
  refine xw_iconst dr_endTask_11 ki_0 ?_
  refine xw_cTi dr_endTask_12 (lk_r_endTask_12 (xl_n hn (by decide)) rfl) ok_m_wordAt (mm_wordAt hl hn hJ) ⟨Nat.le_of_ble_eq_true rfl, Nat.le_of_ble_eq_true rfl⟩ rfl (fun b1 s2 h_s2 => ?_)
  have hJ_s2 : jx_J s2 := xj_o (jm_wordAt hJ) h_s2
  refine xw_istore1 dr_endTask_15 (Nat.le_of_ble_eq_true rfl) rfl ?_
  refine xw_aload0 dr_endTask_16 ?_
  refine xw_getR dr_endTask_17 fl_r_10 (xl_n hn (by decide)) rfl r_1_0 ?_
  refine xw_iload1 dr_endTask_20 ?_
  refine xw_cVi dr_endTask_21 (lk_r_endTask_21) ok_r_isNull (mr_isNull hl hn) ⟨Nat.le_of_ble_eq_true rfl, Nat.le_of_ble_eq_true rfl⟩ ?_
  refine xw_bipush dr_endTask_24 kb_13 ?_
  refine xw_iconst dr_endTask_26 ki_0 ?_
  refine xw_cTu dr_endTask_27 (lk_r_endTask_27 (xl_n hn (by decide)) rfl) ok_x_refuse (mx_refuse hl hn) ⟨Nat.le_of_ble_eq_true rfl, Nat.le_of_ble_eq_true rfl⟩ rfl (fun b3 s4 h_s4 => ?_)
  have hJ_s4 : jx_J s4 := xj_o (jx_refuse hJ_s2) h_s4
  refine xw_aload0 dr_endTask_30 ?_
  refine xw_iload1 dr_endTask_31 ?_
  refine xw_aload0 dr_endTask_32 ?_
  refine xw_getR dr_endTask_33 fl_r_38 (xl_n hn (by decide)) rfl r_1_4 ?_
  refine xw_cTu dr_endTask_36 (lk_r_endTask_36 (xl_n hn (by decide)) rfl) ok_r_lookUp (mr_lookUp hl hn (by decide) (xl_n hn (by decide)) rfl hJ_s4) ⟨Nat.le_of_ble_eq_true rfl, Nat.le_of_ble_eq_true rfl⟩ rfl (fun b5 s6 h_s6 => ?_)
  have hJ_s6 : jx_J s6 := xj_o (jr_lookUp hJ_s4) h_s6
  refine xw_aload0 dr_endTask_39 ?_
  refine xw_getR dr_endTask_40 fl_r_10 (xl_n hn (by decide)) rfl r_1_0 ?_
  refine xw_aload0 dr_endTask_43 ?_
  refine xw_getR dr_endTask_44 fl_r_38 (xl_n hn (by decide)) rfl r_1_4 ?_
  refine xw_getI dr_endTask_47 fl_r_179 (by decide) (xl_n hn (by decide)) rfl ?_
  refine xw_iconst dr_endTask_50 ki_5 ?_
  refine xw_icmp_eq_mi (J := 71) (a := (0 : Int32)) (b := (if (s6 13 3) = (6 : Int32) then (0 : Int32) else (1 : Int32))) dr_endTask_51 rfl (fun _ E' k' => ?_) (fun _ E' k' => ?_) ?_
  · refine xw_iconst dr_endTask_70 ki_0 ?_
    exact k'
  · refine xw_aload0 dr_endTask_54 ?_
    refine xw_getR dr_endTask_55 fl_r_38 (xl_n hn (by decide)) rfl r_1_4 ?_
    refine xw_getI dr_endTask_58 fl_r_179 (by decide) (xl_n hn (by decide)) rfl ?_
    refine xw_bipush dr_endTask_61 kb_6 ?_
    refine xw_icmp_eq_mi (J := 71) (a := (0 : Int32)) (b := (1 : Int32)) dr_endTask_63 rfl (fun _ E' k' => ?_) (fun _ E' k' => ?_) ?_
    · refine xw_iconst dr_endTask_70 ki_0 ?_
      exact k'
    · refine xw_iconst dr_endTask_66 ki_1 ?_
      refine xw_goto dr_endTask_67 rfl ?_
      exact k'
    exact k'
  refine xw_bipush dr_endTask_71 kb_13 ?_
  refine xw_iconst dr_endTask_73 ki_0 ?_
  refine xw_cTu dr_endTask_74 (lk_r_endTask_74 (xl_n hn (by decide)) rfl) ok_x_refuse (mx_refuse hl hn) ⟨Nat.le_of_ble_eq_true rfl, Nat.le_of_ble_eq_true rfl⟩ rfl (fun b7 s8 h_s8 => ?_)
  have hJ_s8 : jx_J s8 := xj_o (jx_refuse hJ_s6) h_s8
  refine xw_aload0 dr_endTask_77 ?_
  refine xw_iconst dr_endTask_78 ki_2 ?_
  refine xw_cTu dr_endTask_79 (lk_r_endTask_79 (xl_n hn (by decide)) rfl) ok_r_switchTask (mr_switchTask hl hn hJ_s8) ⟨Nat.le_of_ble_eq_true rfl, Nat.le_of_ble_eq_true rfl⟩ rfl (fun b9 s10 h_s10 => ?_)
  have hJ_s10 : jx_J s10 := xj_o (jr_switchTask hJ_s8) h_s10
  exact xw_vret dr_endTask_82 rfl
theorem jr_endTask {σ : xs_S} (hJ : jx_J σ) : jx_J (fr_endTask σ).2 := by
  unfold fr_endTask
  refine xj_b (jm_wordAt hJ) (fun b1 s2 h_s2 hJ_s2 => ?_)
  refine xj_b (jx_refuse hJ_s2) (fun b3 s4 h_s4 hJ_s4 => ?_)
  refine xj_b (jr_lookUp hJ_s4) (fun b5 s6 h_s6 hJ_s6 => ?_)
  refine xj_b (jx_refuse hJ_s6) (fun b7 s8 h_s8 hJ_s8 => ?_)
  refine xj_b (jr_switchTask hJ_s8) (fun b9 s10 h_s10 hJ_s10 => ?_)
  exact hJ_s10
def fr_register (a1 : Int32) (σ : xs_S) : Int32 := (if a1 = (0 : Int32) then (σ 4 0) else (if a1 = (1 : Int32) then (σ 5 0) else (if a1 = (2 : Int32) then (σ 6 0) else (if a1 = (3 : Int32) then (σ 3 3) else (if a1 = (4 : Int32) then (σ 3 4) else (if a1 = (5 : Int32) then (σ 3 5) else (if a1 = (6 : Int32) then (σ 3 6) else (if a1 = (7 : Int32) then (σ 3 7) else (if a1 = (8 : Int32) then (σ 3 8) else (if a1 = (9 : Int32) then (σ 3 9) else (if a1 = (10 : Int32) then (σ 2 2) else (if a1 = (11 : Int32) then (σ 3 10) else (if a1 = (12 : Int32) then (if (σ 1 12) = 0 then (0 : Int32) else (1 : Int32)) else (-1 : Int32))))))))))))))
set_option maxRecDepth 100000 in
set_option maxHeartbeats 4000000 in
theorem mr_register {l : Launch} {N n u : Nat} {a1 : Int32} {σ : xs_S} (hl : l.stackTraces = false) (hn : 29 ≤ n) : xm_m (xk_k N) l tr_register [.ref 1, .int a1] (n, u, σ, xr_0) (xe_v ei_i n u σ (fr_register a1 σ)) := by
  refine xm_of hl ok_r_register (Nat.le_of_ble_eq_true rfl) ?_
  show xw_w (xk_k N) l tr_register 0 [some (.ref 1), some (.int a1)] [] (n, u, σ, xr_0) (xe_v ei_i n u σ (fr_register a1 σ))
  unfold fr_register
  refine xw_iload1 dr_register_0 ?_
  refine xw_sp (fun h1 => ?_) (fun h1 => ?_)
  · refine xw_tsI (off := 67) dr_register_1 h1 (by decide) (by decide) rfl rfl ?_
    refine xw_aload0 dr_register_68 ?_
    refine xw_getR dr_register_69 fl_r_19 (xl_n hn (by decide)) rfl r_1_1 ?_
    refine xw_getR dr_register_72 fl_r_139 (xl_n hn (by decide)) rfl r_3_0 ?_
    refine xw_getI dr_register_75 fl_r_142 (by decide) (xl_n hn (by decide)) rfl ?_
    exact xw_iret dr_register_78 rfl
  · refine xw_sp (fun h2 => ?_) (fun h2 => ?_)
    · refine xw_tsI (off := 78) dr_register_1 h2 (by decide) (by decide) rfl rfl ?_
      refine xw_aload0 dr_register_79 ?_
      refine xw_getR dr_register_80 fl_r_19 (xl_n hn (by decide)) rfl r_1_1 ?_
      refine xw_getR dr_register_83 fl_r_145 (xl_n hn (by decide)) rfl r_3_1 ?_
      refine xw_getI dr_register_86 fl_r_142 (by decide) (xl_n hn (by decide)) rfl ?_
      exact xw_iret dr_register_89 rfl
    · refine xw_sp (fun h3 => ?_) (fun h3 => ?_)
      · refine xw_tsI (off := 89) dr_register_1 h3 (by decide) (by decide) rfl rfl ?_
        refine xw_aload0 dr_register_90 ?_
        refine xw_getR dr_register_91 fl_r_19 (xl_n hn (by decide)) rfl r_1_1 ?_
        refine xw_getR dr_register_94 fl_r_148 (xl_n hn (by decide)) rfl r_3_2 ?_
        refine xw_getI dr_register_97 fl_r_142 (by decide) (xl_n hn (by decide)) rfl ?_
        exact xw_iret dr_register_100 rfl
      · refine xw_sp (fun h4 => ?_) (fun h4 => ?_)
        · refine xw_tsI (off := 100) dr_register_1 h4 (by decide) (by decide) rfl rfl ?_
          refine xw_aload0 dr_register_101 ?_
          refine xw_getR dr_register_102 fl_r_19 (xl_n hn (by decide)) rfl r_1_1 ?_
          refine xw_getI dr_register_105 fl_r_151 (by decide) (xl_n hn (by decide)) rfl ?_
          exact xw_iret dr_register_108 rfl
        · refine xw_sp (fun h5 => ?_) (fun h5 => ?_)
          · refine xw_tsI (off := 108) dr_register_1 h5 (by decide) (by decide) rfl rfl ?_
            refine xw_aload0 dr_register_109 ?_
            refine xw_getR dr_register_110 fl_r_19 (xl_n hn (by decide)) rfl r_1_1 ?_
            refine xw_getI dr_register_113 fl_r_154 (by decide) (xl_n hn (by decide)) rfl ?_
            exact xw_iret dr_register_116 rfl
          · refine xw_sp (fun h6 => ?_) (fun h6 => ?_)
            · refine xw_tsI (off := 116) dr_register_1 h6 (by decide) (by decide) rfl rfl ?_
              refine xw_aload0 dr_register_117 ?_
              refine xw_getR dr_register_118 fl_r_19 (xl_n hn (by decide)) rfl r_1_1 ?_
              refine xw_getI dr_register_121 fl_r_133 (by decide) (xl_n hn (by decide)) rfl ?_
              exact xw_iret dr_register_124 rfl
            · refine xw_sp (fun h7 => ?_) (fun h7 => ?_)
              · refine xw_tsI (off := 124) dr_register_1 h7 (by decide) (by decide) rfl rfl ?_
                refine xw_aload0 dr_register_125 ?_
                refine xw_getR dr_register_126 fl_r_19 (xl_n hn (by decide)) rfl r_1_1 ?_
                refine xw_getI dr_register_129 fl_r_157 (by decide) (xl_n hn (by decide)) rfl ?_
                exact xw_iret dr_register_132 rfl
              · refine xw_sp (fun h8 => ?_) (fun h8 => ?_)
                · refine xw_tsI (off := 132) dr_register_1 h8 (by decide) (by decide) rfl rfl ?_
                  refine xw_aload0 dr_register_133 ?_
                  refine xw_getR dr_register_134 fl_r_19 (xl_n hn (by decide)) rfl r_1_1 ?_
                  refine xw_getI dr_register_137 fl_r_160 (by decide) (xl_n hn (by decide)) rfl ?_
                  exact xw_iret dr_register_140 rfl
                · refine xw_sp (fun h9 => ?_) (fun h9 => ?_)
                  · refine xw_tsI (off := 140) dr_register_1 h9 (by decide) (by decide) rfl rfl ?_
                    refine xw_aload0 dr_register_141 ?_
                    refine xw_getR dr_register_142 fl_r_19 (xl_n hn (by decide)) rfl r_1_1 ?_
                    refine xw_getI dr_register_145 fl_r_163 (by decide) (xl_n hn (by decide)) rfl ?_
                    exact xw_iret dr_register_148 rfl
                  · refine xw_sp (fun h10 => ?_) (fun h10 => ?_)
                    · refine xw_tsI (off := 148) dr_register_1 h10 (by decide) (by decide) rfl rfl ?_
                      refine xw_aload0 dr_register_149 ?_
                      refine xw_getR dr_register_150 fl_r_19 (xl_n hn (by decide)) rfl r_1_1 ?_
                      refine xw_getI dr_register_153 fl_r_77 (by decide) (xl_n hn (by decide)) rfl ?_
                      exact xw_iret dr_register_156 rfl
                    · refine xw_sp (fun h11 => ?_) (fun h11 => ?_)
                      · refine xw_tsI (off := 156) dr_register_1 h11 (by decide) (by decide) rfl rfl ?_
                        refine xw_aload0 dr_register_157 ?_
                        refine xw_getR dr_register_158 fl_r_10 (xl_n hn (by decide)) rfl r_1_0 ?_
                        refine xw_getI dr_register_161 fl_r_166 (by decide) (xl_n hn (by decide)) rfl ?_
                        exact xw_iret dr_register_164 rfl
                      · refine xw_sp (fun h12 => ?_) (fun h12 => ?_)
                        · refine xw_tsI (off := 164) dr_register_1 h12 (by decide) (by decide) rfl rfl ?_
                          refine xw_aload0 dr_register_165 ?_
                          refine xw_getR dr_register_166 fl_r_19 (xl_n hn (by decide)) rfl r_1_1 ?_
                          refine xw_getI dr_register_169 fl_r_108 (by decide) (xl_n hn (by decide)) rfl ?_
                          exact xw_iret dr_register_172 rfl
                        · refine xw_sp (fun h13 => ?_) (fun h13 => ?_)
                          · refine xw_tsI (off := 172) dr_register_1 h13 (by decide) (by decide) rfl rfl ?_
                            refine xw_aload0 dr_register_173 ?_
                            refine xw_getI dr_register_174 fl_r_63 (by decide) (xl_n hn (by decide)) rfl ?_
                            refine xw_if_eq' dr_register_177 rfl (fun h14 => ?_) (fun h14 => ?_)
                            · refine xw_iconst dr_register_184 ki_0 ?_
                              exact xw_iret dr_register_185 rfl
                            · refine xw_iconst dr_register_180 ki_1 ?_
                              refine xw_goto dr_register_181 rfl ?_
                              exact xw_iret dr_register_185 rfl
                          · refine xw_tsO dr_register_1 (by have q0 := lv_neT h1 (a := 0) rfl; have q1 := lv_neT h2 (a := 1) rfl; have q2 := lv_neT h3 (a := 2) rfl; have q3 := lv_neT h4 (a := 3) rfl; have q4 := lv_neT h5 (a := 4) rfl; have q5 := lv_neT h6 (a := 5) rfl; have q6 := lv_neT h7 (a := 6) rfl; have q7 := lv_neT h8 (a := 7) rfl; have q8 := lv_neT h9 (a := 8) rfl; have q9 := lv_neT h10 (a := 9) rfl; have q10 := lv_neT h11 (a := 10) rfl; have q11 := lv_neT h12 (a := 11) rfl; have q12 := lv_neT h13 (a := 12) rfl; omega) rfl ?_
                            refine xw_iconst dr_register_186 ki_m1 ?_
                            exact xw_iret dr_register_187 rfl
def fr_segment (a1 : Int32) (a2 : Int32) (σ : xs_S) : Int32 := (if a1 < 0 then (-1 : Int32) else (if a1 ≤ (2 : Int32) then (if a2 = (0 : Int32) then (σ (fg_held a1 σ) 1) else (if a2 = (1 : Int32) then (σ (fg_held a1 σ) 2) else (if a2 = (2 : Int32) then (σ (fg_held a1 σ) 3) else (if a2 = (3 : Int32) then (σ (fg_held a1 σ) 4) else (-1 : Int32))))) else (-1 : Int32)))
set_option maxRecDepth 100000 in
set_option maxHeartbeats 4000000 in
theorem mr_segment {l : Launch} {N n u : Nat} {a1 : Int32} {a2 : Int32} {σ : xs_S} (hl : l.stackTraces = false) (hn : 29 ≤ n) : xm_m (xk_k N) l tr_segment [.ref 1, .int a1, .int a2] (n, u, σ, xr_0) (xe_v ei_i n u σ (fr_segment a1 a2 σ)) := by
  refine xm_of hl ok_r_segment (Nat.le_of_ble_eq_true rfl) ?_
  show xw_w (xk_k N) l tr_segment 0 [some (.ref 1), some (.int a1), some (.int a2), none] [] (n, u, σ, xr_0) (xe_v ei_i n u σ (fr_segment a1 a2 σ))
  unfold fr_segment
  refine xw_iload1 dr_segment_0 ?_
  refine xw_if_lt' dr_segment_1 rfl (fun h1 => ?_) (fun h1 => ?_)
  · refine xw_iconst dr_segment_9 ki_m1 ?_
    exact xw_iret dr_segment_10 rfl
  · refine xw_iload1 dr_segment_4 ?_
    refine xw_iconst dr_segment_5 ki_2 ?_
    refine xw_icmp_le' dr_segment_6 rfl (fun h2 => ?_) (fun h2 => ?_)
    · refine xw_aload0 dr_segment_11 ?_
      refine xw_getR dr_segment_12 fl_r_19 (xl_n hn (by decide)) rfl r_1_1 ?_
      refine xw_iload1 dr_segment_15 ?_
      refine xw_cVr dr_segment_16 (lk_r_segment_16 (xl_n hn (by decide)) rfl) ok_g_held (mg_held hl hn) ⟨Nat.le_of_ble_eq_true rfl, Nat.le_of_ble_eq_true rfl⟩ ?_
      refine xw_astore3 dr_segment_19 (Nat.le_of_ble_eq_true rfl) rfl ?_
      refine xw_iload2 dr_segment_20 ?_
      refine xw_sp (fun h3 => ?_) (fun h3 => ?_)
      · refine xw_tsI (off := 31) dr_segment_21 h3 (by decide) (by decide) rfl rfl ?_
        refine xw_aload3 dr_segment_52 ?_
        refine xw_getI dr_segment_53 fl_r_173 (by decide) (xl_n hn he_i) he_k ?_
        exact xw_iret dr_segment_56 rfl
      · refine xw_sp (fun h4 => ?_) (fun h4 => ?_)
        · refine xw_tsI (off := 36) dr_segment_21 h4 (by decide) (by decide) rfl rfl ?_
          refine xw_aload3 dr_segment_57 ?_
          refine xw_getI dr_segment_58 fl_r_176 (by decide) (xl_n hn he_i) he_k ?_
          exact xw_iret dr_segment_61 rfl
        · refine xw_sp (fun h5 => ?_) (fun h5 => ?_)
          · refine xw_tsI (off := 41) dr_segment_21 h5 (by decide) (by decide) rfl rfl ?_
            refine xw_aload3 dr_segment_62 ?_
            refine xw_getI dr_segment_63 fl_r_179 (by decide) (xl_n hn he_i) he_k ?_
            exact xw_iret dr_segment_66 rfl
          · refine xw_sp (fun h6 => ?_) (fun h6 => ?_)
            · refine xw_tsI (off := 46) dr_segment_21 h6 (by decide) (by decide) rfl rfl ?_
              refine xw_aload3 dr_segment_67 ?_
              refine xw_getI dr_segment_68 fl_r_182 (by decide) (xl_n hn he_i) he_k ?_
              exact xw_iret dr_segment_71 rfl
            · refine xw_tsO dr_segment_21 (by have q0 := lv_neT h3 (a := 0) rfl; have q1 := lv_neT h4 (a := 1) rfl; have q2 := lv_neT h5 (a := 2) rfl; have q3 := lv_neT h6 (a := 3) rfl; omega) rfl ?_
              refine xw_iconst dr_segment_72 ki_m1 ?_
              exact xw_iret dr_segment_73 rfl
    · refine xw_iconst dr_segment_9 ki_m1 ?_
      exact xw_iret dr_segment_10 rfl
