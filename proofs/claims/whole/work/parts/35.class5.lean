def fr_passGate (a1 : Int32) (σ : xs_S) : xp_P Unit := xp_b (fr_findTarget a1 σ) (fun b1 s2 => (if a1 = 0 then xp_b (fr_enter 14 (s2 13 1) s2) (fun b4 s5 => (some (), s5)) else (if (fr_leadsInwards s2) = 0 then xp_b (fr_pushReturn (fr_next s2) s2) (fun b7 s8 => xp_b (fr_enter 14 (s8 13 1) s8) (fun b9 s10 => (some (), s10))) else xp_b (fr_findInnerStack s2) (fun b11 s12 => xp_b (fr_changeStack b11 (s12 13 5) s12) (fun b13 s14 => xp_b (fr_pushReturn (fr_next s14) s14) (fun b15 s16 => xp_b (fr_enter 14 (s16 13 1) s16) (fun b17 s18 => (some (), s18))))))))
set_option maxRecDepth 100000 in
set_option maxHeartbeats 4000000 in
theorem mr_passGate {l : Launch} {N n u : Nat} {a1 : Int32} {σ : xs_S} (hl : l.stackTraces = false) (hn : 29 ≤ n) (hJ : jx_J σ) : xm_m (xk_k N) l tr_passGate [.ref 1, .int a1] (n, u, σ, xr_0) (xe_t eu_u n u (fr_passGate a1 σ)) := by
  refine xm_of hl ok_r_passGate (Nat.le_of_ble_eq_true rfl) ?_
  show xw_w (xk_k N) l tr_passGate 0 [some (.ref 1), some (.int a1)] [] (n, u, σ, xr_0) (xe_t eu_u n u (fr_passGate a1 σ))
  unfold fr_passGate
  refine xw_aload0 dr_passGate_0 ?_
  refine xw_iload1 dr_passGate_1 ?_
  refine xw_cTu dr_passGate_2 (lk_r_passGate_2 (xl_n hn (by decide)) rfl) ok_r_findTarget (mr_findTarget hl hn hJ) ⟨Nat.le_of_ble_eq_true rfl, Nat.le_of_ble_eq_true rfl⟩ rfl (fun b1 s2 h_s2 => ?_)
  have hJ_s2 : jx_J s2 := xj_o (jr_findTarget hJ) h_s2
  refine xw_iload1 dr_passGate_5 ?_
  refine xw_if_eq' dr_passGate_6 rfl (fun h3 => ?_) (fun h3 => ?_)
  · refine xw_aload0 dr_passGate_39 ?_
    refine xw_aload0 dr_passGate_40 ?_
    refine xw_getR dr_passGate_41 fl_r_42 (xl_n hn (by decide)) rfl r_1_5 ?_
    refine xw_aload0 dr_passGate_44 ?_
    refine xw_getR dr_passGate_45 fl_r_38 (xl_n hn (by decide)) rfl r_1_4 ?_
    refine xw_getI dr_passGate_48 fl_r_173 (by decide) (xl_n hn (by decide)) rfl ?_
    refine xw_cTu dr_passGate_51 (lk_r_passGate_51 (xl_n hn (by decide)) rfl) ok_r_enter (mr_enter hl hn (by decide) (xl_n hn (by decide)) rfl hJ_s2) ⟨Nat.le_of_ble_eq_true rfl, Nat.le_of_ble_eq_true rfl⟩ rfl (fun b4 s5 h_s5 => ?_)
    have hJ_s5 : jx_J s5 := xj_o (jr_enter hJ_s2) h_s5
    exact xw_vret dr_passGate_54 rfl
  · refine xw_aload0 dr_passGate_9 ?_
    refine xw_cVi dr_passGate_10 (lk_r_passGate_10 (xl_n hn (by decide)) rfl) ok_r_leadsInwards (mr_leadsInwards hl hn) ⟨Nat.le_of_ble_eq_true rfl, Nat.le_of_ble_eq_true rfl⟩ ?_
    refine xw_if_eq' dr_passGate_13 rfl (fun h6 => ?_) (fun h6 => ?_)
    · refine xw_aload0 dr_passGate_31 ?_
      refine xw_aload0 dr_passGate_32 ?_
      refine xw_cVi dr_passGate_33 (lk_r_passGate_33 (xl_n hn (by decide)) rfl) ok_r_next (mr_next hl hn) ⟨Nat.le_of_ble_eq_true rfl, Nat.le_of_ble_eq_true rfl⟩ ?_
      refine xw_cTu dr_passGate_36 (lk_r_passGate_36 (xl_n hn (by decide)) rfl) ok_r_pushReturn (mr_pushReturn hl hn hJ_s2) ⟨Nat.le_of_ble_eq_true rfl, Nat.le_of_ble_eq_true rfl⟩ rfl (fun b7 s8 h_s8 => ?_)
      have hJ_s8 : jx_J s8 := xj_o (jr_pushReturn hJ_s2) h_s8
      refine xw_aload0 dr_passGate_39 ?_
      refine xw_aload0 dr_passGate_40 ?_
      refine xw_getR dr_passGate_41 fl_r_42 (xl_n hn (by decide)) rfl r_1_5 ?_
      refine xw_aload0 dr_passGate_44 ?_
      refine xw_getR dr_passGate_45 fl_r_38 (xl_n hn (by decide)) rfl r_1_4 ?_
      refine xw_getI dr_passGate_48 fl_r_173 (by decide) (xl_n hn (by decide)) rfl ?_
      refine xw_cTu dr_passGate_51 (lk_r_passGate_51 (xl_n hn (by decide)) rfl) ok_r_enter (mr_enter hl hn (by decide) (xl_n hn (by decide)) rfl hJ_s8) ⟨Nat.le_of_ble_eq_true rfl, Nat.le_of_ble_eq_true rfl⟩ rfl (fun b9 s10 h_s10 => ?_)
      have hJ_s10 : jx_J s10 := xj_o (jr_enter hJ_s8) h_s10
      exact xw_vret dr_passGate_54 rfl
    · refine xw_aload0 dr_passGate_16 ?_
      refine xw_aload0 dr_passGate_17 ?_
      refine xw_cTi dr_passGate_18 (lk_r_passGate_18 (xl_n hn (by decide)) rfl) ok_r_findInnerStack (mr_findInnerStack hl hn hJ_s2) ⟨Nat.le_of_ble_eq_true rfl, Nat.le_of_ble_eq_true rfl⟩ rfl (fun b11 s12 h_s12 => ?_)
      have hJ_s12 : jx_J s12 := xj_o (jr_findInnerStack hJ_s2) h_s12
      refine xw_aload0 dr_passGate_21 ?_
      refine xw_getR dr_passGate_22 fl_r_38 (xl_n hn (by decide)) rfl r_1_4 ?_
      refine xw_getI dr_passGate_25 fl_r_276 (by decide) (xl_n hn (by decide)) rfl ?_
      refine xw_cTu dr_passGate_28 (lk_r_passGate_28 (xl_n hn (by decide)) rfl) ok_r_changeStack (mr_changeStack hl hn (hJ_s12).2.2 hJ_s12) ⟨Nat.le_of_ble_eq_true rfl, Nat.le_of_ble_eq_true rfl⟩ rfl (fun b13 s14 h_s14 => ?_)
      have hJ_s14 : jx_J s14 := xj_o (jr_changeStack hJ_s12) h_s14
      refine xw_aload0 dr_passGate_31 ?_
      refine xw_aload0 dr_passGate_32 ?_
      refine xw_cVi dr_passGate_33 (lk_r_passGate_33 (xl_n hn (by decide)) rfl) ok_r_next (mr_next hl hn) ⟨Nat.le_of_ble_eq_true rfl, Nat.le_of_ble_eq_true rfl⟩ ?_
      refine xw_cTu dr_passGate_36 (lk_r_passGate_36 (xl_n hn (by decide)) rfl) ok_r_pushReturn (mr_pushReturn hl hn hJ_s14) ⟨Nat.le_of_ble_eq_true rfl, Nat.le_of_ble_eq_true rfl⟩ rfl (fun b15 s16 h_s16 => ?_)
      have hJ_s16 : jx_J s16 := xj_o (jr_pushReturn hJ_s14) h_s16
      refine xw_aload0 dr_passGate_39 ?_
      refine xw_aload0 dr_passGate_40 ?_
      refine xw_getR dr_passGate_41 fl_r_42 (xl_n hn (by decide)) rfl r_1_5 ?_
      refine xw_aload0 dr_passGate_44 ?_
      refine xw_getR dr_passGate_45 fl_r_38 (xl_n hn (by decide)) rfl r_1_4 ?_
      refine xw_getI dr_passGate_48 fl_r_173 (by decide) (xl_n hn (by decide)) rfl ?_
      refine xw_cTu dr_passGate_51 (lk_r_passGate_51 (xl_n hn (by decide)) rfl) ok_r_enter (mr_enter hl hn (by decide) (xl_n hn (by decide)) rfl hJ_s16) ⟨Nat.le_of_ble_eq_true rfl, Nat.le_of_ble_eq_true rfl⟩ rfl (fun b17 s18 h_s18 => ?_)
      have hJ_s18 : jx_J s18 := xj_o (jr_enter hJ_s16) h_s18
      exact xw_vret dr_passGate_54 rfl
theorem jr_passGate {a1 : Int32} {σ : xs_S} (hJ : jx_J σ) : jx_J (fr_passGate a1 σ).2 := by
  unfold fr_passGate
  refine xj_b (jr_findTarget hJ) (fun b1 s2 h_s2 hJ_s2 => ?_)
  refine xj_f (fun h3 => ?_) (fun h3 => ?_)
  · refine xj_b (jr_enter hJ_s2) (fun b4 s5 h_s5 hJ_s5 => ?_)
    exact hJ_s5
  · refine xj_f (fun h6 => ?_) (fun h6 => ?_)
    · refine xj_b (jr_pushReturn hJ_s2) (fun b7 s8 h_s8 hJ_s8 => ?_)
      refine xj_b (jr_enter hJ_s8) (fun b9 s10 h_s10 hJ_s10 => ?_)
      exact hJ_s10
    · refine xj_b (jr_findInnerStack hJ_s2) (fun b11 s12 h_s12 hJ_s12 => ?_)
      refine xj_b (jr_changeStack hJ_s12) (fun b13 s14 h_s14 hJ_s14 => ?_)
      refine xj_b (jr_pushReturn hJ_s14) (fun b15 s16 h_s16 hJ_s16 => ?_)
      refine xj_b (jr_enter hJ_s16) (fun b17 s18 h_s18 hJ_s18 => ?_)
      exact hJ_s18
def fr_transfer (a1 : Int32) (a2 : Int32) (a3 : Int32) (σ : xs_S) : xp_P Unit := xl_l ((fr_codeOf a1 σ)) (fun v1 => xp_b (fx_refuse (fr_isNull a1 σ) (13 : Int32) (0 : Int32) σ) (fun b2 s3 => xp_b (fr_lookUp a1 13 s3) (fun b4 s5 => (if (fr_mayBeEntered 13 s5) = 0 then xl_l ((if (s5 13 3) = (7 : Int32) then (1 : Int32) else (if (s5 13 3) = (5 : Int32) then (1 : Int32) else (0 : Int32)))) (fun v7 => xl_l ((if (s5 13 4) < (s5 3 6) then (0 : Int32) else (if (s5 13 4) < (fr_rplOf a1 s5) then (0 : Int32) else (1 : Int32)))) (fun v8 => xp_b (fx_refuse (if v7 = 0 then (1 : Int32) else (if v8 = 0 then (1 : Int32) else (0 : Int32))) (13 : Int32) v1 s5) (fun b9 s10 => xp_b (fx_refuse (if (s10 13 6) = 0 then (1 : Int32) else (0 : Int32)) (11 : Int32) v1 s10) (fun b11 s12 => (if (s12 13 3) = (5 : Int32) then xp_b (fr_switchTask (if a3 = 0 then (0 : Int32) else (1 : Int32)) s12) (fun b16 s17 => (some (), s17)) else xp_b (fr_passGate a3 s12) (fun b14 s15 => (some (), s15))))))) else (if (s5 13 3) = (2 : Int32) then xp_b (fx_refuse (if (s5 13 6) = 0 then (1 : Int32) else (0 : Int32)) (11 : Int32) v1 s5) (fun b19 s20 => (if a3 = 0 then xp_b (fr_enter 13 a2 s20) (fun b22 s23 => (some (), s23)) else xp_b (fr_pushReturn (fr_next s20) s20) (fun b24 s25 => xp_b (fr_enter 13 a2 s25) (fun b26 s27 => (some (), s27))))) else (if (s5 3 6) < (fr_rplOf a1 s5) then xl_l ((if (s5 13 3) = (7 : Int32) then (1 : Int32) else (if (s5 13 3) = (5 : Int32) then (1 : Int32) else (0 : Int32)))) (fun v29 => xl_l ((if (s5 13 4) < (s5 3 6) then (0 : Int32) else (if (s5 13 4) < (fr_rplOf a1 s5) then (0 : Int32) else (1 : Int32)))) (fun v30 => xp_b (fx_refuse (if v29 = 0 then (1 : Int32) else (if v30 = 0 then (1 : Int32) else (0 : Int32))) (13 : Int32) v1 s5) (fun b31 s32 => xp_b (fx_refuse (if (s32 13 6) = 0 then (1 : Int32) else (0 : Int32)) (11 : Int32) v1 s32) (fun b33 s34 => (if (s34 13 3) = (5 : Int32) then xp_b (fr_switchTask (if a3 = 0 then (0 : Int32) else (1 : Int32)) s34) (fun b38 s39 => (some (), s39)) else xp_b (fr_passGate a3 s34) (fun b36 s37 => (some (), s37))))))) else xp_b (fx_refuse (if (s5 13 6) = 0 then (1 : Int32) else (0 : Int32)) (11 : Int32) v1 s5) (fun b40 s41 => (if a3 = 0 then xp_b (fr_enter 13 a2 s41) (fun b43 s44 => (some (), s44)) else xp_b (fr_pushReturn (fr_next s41) s41) (fun b45 s46 => xp_b (fr_enter 13 a2 s46) (fun b47 s48 => (some (), s48)))))))))))
set_option maxRecDepth 100000 in
set_option maxHeartbeats 4000000 in
theorem mr_transfer {l : Launch} {N n u : Nat} {a1 : Int32} {a2 : Int32} {a3 : Int32} {σ : xs_S} (hl : l.stackTraces = false) (hn : 29 ≤ n) (hJ : jx_J σ) : xm_m (xk_k N) l tr_transfer [.ref 1, .int a1, .int a2, .int a3] (n, u, σ, xr_0) (xe_t eu_u n u (fr_transfer a1 a2 a3 σ)) := by
  refine xm_of hl ok_r_transfer (Nat.le_of_ble_eq_true rfl) ?_
  show xw_w (xk_k N) l tr_transfer 0 [some (.ref 1), some (.int a1), some (.int a2), some (.int a3), none, none, none] [] (n, u, σ, xr_0) (xe_t eu_u n u (fr_transfer a1 a2 a3 σ))
  unfold fr_transfer
  refine xw_iload1 dr_transfer_0 ?_
  refine xw_cVi dr_transfer_1 (lk_r_transfer_1) ok_r_codeOf (mr_codeOf hl hn) ⟨Nat.le_of_ble_eq_true rfl, Nat.le_of_ble_eq_true rfl⟩ ?_
  refine xw_li (fun v1 e_v1 => ?_)
  refine xw_istore4 dr_transfer_4 (Nat.le_of_ble_eq_true rfl) rfl ?_
  refine xw_aload0 dr_transfer_6 ?_
  refine xw_getR dr_transfer_7 fl_r_10 (xl_n hn (by decide)) rfl r_1_0 ?_
  refine xw_iload1 dr_transfer_10 ?_
  refine xw_cVi dr_transfer_11 (lk_r_transfer_11) ok_r_isNull (mr_isNull hl hn) ⟨Nat.le_of_ble_eq_true rfl, Nat.le_of_ble_eq_true rfl⟩ ?_
  refine xw_bipush dr_transfer_14 kb_13 ?_
  refine xw_iconst dr_transfer_16 ki_0 ?_
  refine xw_cTu dr_transfer_17 (lk_r_transfer_17 (xl_n hn (by decide)) rfl) ok_x_refuse (mx_refuse hl hn) ⟨Nat.le_of_ble_eq_true rfl, Nat.le_of_ble_eq_true rfl⟩ rfl (fun b2 s3 h_s3 => ?_)
  have hJ_s3 : jx_J s3 := xj_o (jx_refuse hJ) h_s3
  refine xw_aload0 dr_transfer_20 ?_
  refine xw_iload1 dr_transfer_21 ?_
  refine xw_aload0 dr_transfer_22 ?_
  refine xw_getR dr_transfer_23 fl_r_38 (xl_n hn (by decide)) rfl r_1_4 ?_
  refine xw_cTu dr_transfer_26 (lk_r_transfer_26 (xl_n hn (by decide)) rfl) ok_r_lookUp (mr_lookUp hl hn (by decide) (xl_n hn (by decide)) rfl hJ_s3) ⟨Nat.le_of_ble_eq_true rfl, Nat.le_of_ble_eq_true rfl⟩ rfl (fun b4 s5 h_s5 => ?_)
  have hJ_s5 : jx_J s5 := xj_o (jr_lookUp hJ_s3) h_s5
  refine xw_aload0 dr_transfer_29 ?_
  refine xw_aload0 dr_transfer_30 ?_
  refine xw_getR dr_transfer_31 fl_r_38 (xl_n hn (by decide)) rfl r_1_4 ?_
  refine xw_cVi dr_transfer_34 (lk_r_transfer_34 (xl_n hn (by decide)) rfl) ok_r_mayBeEntered (mr_mayBeEntered hl hn (by decide) (xl_n hn (by decide)) rfl) ⟨Nat.le_of_ble_eq_true rfl, Nat.le_of_ble_eq_true rfl⟩ ?_
  refine xw_if_eq' dr_transfer_37 rfl (fun h6 => ?_) (fun h6 => ?_)
  · refine xw_aload0 dr_transfer_113 ?_
    refine xw_getR dr_transfer_114 fl_r_38 (xl_n hn (by decide)) rfl r_1_4 ?_
    refine xw_getI dr_transfer_117 fl_r_179 (by decide) (xl_n hn (by decide)) rfl ?_
    refine xw_bipush dr_transfer_120 kb_7 ?_
    refine xw_icmp_eq_mi (J := 141) (a := (1 : Int32)) (b := (if (s5 13 3) = (5 : Int32) then (1 : Int32) else (0 : Int32))) dr_transfer_122 rfl (fun _ E' k' => ?_) (fun _ E' k' => ?_) ?_
    · refine xw_iconst dr_transfer_136 ki_1 ?_
      refine xw_goto dr_transfer_137 rfl ?_
      exact k'
    · refine xw_aload0 dr_transfer_125 ?_
      refine xw_getR dr_transfer_126 fl_r_38 (xl_n hn (by decide)) rfl r_1_4 ?_
      refine xw_getI dr_transfer_129 fl_r_179 (by decide) (xl_n hn (by decide)) rfl ?_
      refine xw_iconst dr_transfer_132 ki_5 ?_
      refine xw_icmp_ne_mi (J := 141) (a := (1 : Int32)) (b := (0 : Int32)) dr_transfer_133 rfl (fun _ E' k' => ?_) (fun _ E' k' => ?_) ?_
      · refine xw_iconst dr_transfer_140 ki_0 ?_
        exact k'
      · refine xw_iconst dr_transfer_136 ki_1 ?_
        refine xw_goto dr_transfer_137 rfl ?_
        exact k'
      exact k'
    refine xw_li (fun v7 e_v7 => ?_)
    refine xw_istore5 dr_transfer_141 (Nat.le_of_ble_eq_true rfl) rfl ?_
    refine xw_aload0 dr_transfer_143 ?_
    refine xw_getR dr_transfer_144 fl_r_38 (xl_n hn (by decide)) rfl r_1_4 ?_
    refine xw_getI dr_transfer_147 fl_r_182 (by decide) (xl_n hn (by decide)) rfl ?_
    refine xw_aload0 dr_transfer_150 ?_
    refine xw_getR dr_transfer_151 fl_r_19 (xl_n hn (by decide)) rfl r_1_1 ?_
    refine xw_getI dr_transfer_154 fl_r_157 (by decide) (xl_n hn (by decide)) rfl ?_
    refine xw_icmp_lt_mi (J := 179) (a := (0 : Int32)) (b := (if (s5 13 4) < (fr_rplOf a1 s5) then (0 : Int32) else (1 : Int32))) dr_transfer_157 rfl (fun _ E' k' => ?_) (fun _ E' k' => ?_) ?_
    · refine xw_iconst dr_transfer_178 ki_0 ?_
      exact k'
    · refine xw_aload0 dr_transfer_160 ?_
      refine xw_getR dr_transfer_161 fl_r_38 (xl_n hn (by decide)) rfl r_1_4 ?_
      refine xw_getI dr_transfer_164 fl_r_182 (by decide) (xl_n hn (by decide)) rfl ?_
      refine xw_iload1 dr_transfer_167 ?_
      refine xw_cVi dr_transfer_168 (lk_r_transfer_168) ok_r_rplOf (mr_rplOf hl hn) ⟨Nat.le_of_ble_eq_true rfl, Nat.le_of_ble_eq_true rfl⟩ ?_
      refine xw_icmp_lt_mi (J := 179) (a := (0 : Int32)) (b := (1 : Int32)) dr_transfer_171 rfl (fun _ E' k' => ?_) (fun _ E' k' => ?_) ?_
      · refine xw_iconst dr_transfer_178 ki_0 ?_
        exact k'
      · refine xw_iconst dr_transfer_174 ki_1 ?_
        refine xw_goto dr_transfer_175 rfl ?_
        exact k'
      exact k'
    refine xw_li (fun v8 e_v8 => ?_)
    refine xw_istore6 dr_transfer_179 (Nat.le_of_ble_eq_true rfl) rfl ?_
    refine xw_aload0 dr_transfer_181 ?_
    refine xw_getR dr_transfer_182 fl_r_10 (xl_n hn (by decide)) rfl r_1_0 ?_
    refine xw_iload5 dr_transfer_185 ?_
    refine xw_if_eq_mi (J := 200) (a := (1 : Int32)) (b := (if v8 = 0 then (1 : Int32) else (0 : Int32))) dr_transfer_187 rfl (fun _ E' k' => ?_) (fun _ E' k' => ?_) ?_
    · refine xw_iconst dr_transfer_195 ki_1 ?_
      refine xw_goto dr_transfer_196 rfl ?_
      exact k'
    · refine xw_iload6 dr_transfer_190 ?_
      refine xw_if_ne_mi (J := 200) (a := (1 : Int32)) (b := (0 : Int32)) dr_transfer_192 rfl (fun _ E' k' => ?_) (fun _ E' k' => ?_) ?_
      · refine xw_iconst dr_transfer_199 ki_0 ?_
        exact k'
      · refine xw_iconst dr_transfer_195 ki_1 ?_
        refine xw_goto dr_transfer_196 rfl ?_
        exact k'
      exact k'
    refine xw_bipush dr_transfer_200 kb_13 ?_
    refine xw_iload4 dr_transfer_202 ?_
    refine xw_cTu dr_transfer_204 (lk_r_transfer_204 (xl_n hn (by decide)) rfl) ok_x_refuse (mx_refuse hl hn) ⟨Nat.le_of_ble_eq_true rfl, Nat.le_of_ble_eq_true rfl⟩ rfl (fun b9 s10 h_s10 => ?_)
    have hJ_s10 : jx_J s10 := xj_o (jx_refuse hJ_s5) h_s10
    refine xw_aload0 dr_transfer_207 ?_
    refine xw_getR dr_transfer_208 fl_r_10 (xl_n hn (by decide)) rfl r_1_0 ?_
    refine xw_aload0 dr_transfer_211 ?_
    refine xw_getR dr_transfer_212 fl_r_38 (xl_n hn (by decide)) rfl r_1_4 ?_
    refine xw_getI dr_transfer_215 fl_r_231 (by decide) (xl_n hn (by decide)) rfl ?_
    refine xw_if_ne_mi (J := 226) (a := (1 : Int32)) (b := (0 : Int32)) dr_transfer_218 rfl (fun _ E' k' => ?_) (fun _ E' k' => ?_) ?_
    · refine xw_iconst dr_transfer_225 ki_0 ?_
      exact k'
    · refine xw_iconst dr_transfer_221 ki_1 ?_
      refine xw_goto dr_transfer_222 rfl ?_
      exact k'
    refine xw_bipush dr_transfer_226 kb_11 ?_
    refine xw_iload4 dr_transfer_228 ?_
    refine xw_cTu dr_transfer_230 (lk_r_transfer_230 (xl_n hn (by decide)) rfl) ok_x_refuse (mx_refuse hl hn) ⟨Nat.le_of_ble_eq_true rfl, Nat.le_of_ble_eq_true rfl⟩ rfl (fun b11 s12 h_s12 => ?_)
    have hJ_s12 : jx_J s12 := xj_o (jx_refuse hJ_s10) h_s12
    refine xw_aload0 dr_transfer_233 ?_
    refine xw_getR dr_transfer_234 fl_r_38 (xl_n hn (by decide)) rfl r_1_4 ?_
    refine xw_getI dr_transfer_237 fl_r_179 (by decide) (xl_n hn (by decide)) rfl ?_
    refine xw_iconst dr_transfer_240 ki_5 ?_
    refine xw_icmp_ne' dr_transfer_241 rfl (fun h13 => ?_) (fun h13 => ?_)
    · refine xw_aload0 dr_transfer_260 ?_
      refine xw_iload3 dr_transfer_261 ?_
      refine xw_cTu dr_transfer_262 (lk_r_transfer_262 (xl_n hn (by decide)) rfl) ok_r_passGate (mr_passGate hl hn hJ_s12) ⟨Nat.le_of_ble_eq_true rfl, Nat.le_of_ble_eq_true rfl⟩ rfl (fun b14 s15 h_s15 => ?_)
      have hJ_s15 : jx_J s15 := xj_o (jr_passGate hJ_s12) h_s15
      exact xw_vret dr_transfer_265 rfl
    · refine xw_aload0 dr_transfer_244 ?_
      refine xw_iload3 dr_transfer_245 ?_
      refine xw_if_eq_mi (J := 254) (a := (0 : Int32)) (b := (1 : Int32)) dr_transfer_246 rfl (fun _ E' k' => ?_) (fun _ E' k' => ?_) ?_
      · refine xw_iconst dr_transfer_253 ki_0 ?_
        exact k'
      · refine xw_iconst dr_transfer_249 ki_1 ?_
        refine xw_goto dr_transfer_250 rfl ?_
        exact k'
      refine xw_cTu dr_transfer_254 (lk_r_transfer_254 (xl_n hn (by decide)) rfl) ok_r_switchTask (mr_switchTask hl hn hJ_s12) ⟨Nat.le_of_ble_eq_true rfl, Nat.le_of_ble_eq_true rfl⟩ rfl (fun b16 s17 h_s17 => ?_)
      have hJ_s17 : jx_J s17 := xj_o (jr_switchTask hJ_s12) h_s17
      refine xw_goto dr_transfer_257 rfl ?_
      exact xw_vret dr_transfer_265 rfl
  · refine xw_aload0 dr_transfer_40 ?_
    refine xw_getR dr_transfer_41 fl_r_38 (xl_n hn (by decide)) rfl r_1_4 ?_
    refine xw_getI dr_transfer_44 fl_r_179 (by decide) (xl_n hn (by decide)) rfl ?_
    refine xw_iconst dr_transfer_47 ki_2 ?_
    refine xw_icmp_eq' dr_transfer_48 rfl (fun h18 => ?_) (fun h18 => ?_)
    · refine xw_aload0 dr_transfer_65 ?_
      refine xw_getR dr_transfer_66 fl_r_10 (xl_n hn (by decide)) rfl r_1_0 ?_
      refine xw_aload0 dr_transfer_69 ?_
      refine xw_getR dr_transfer_70 fl_r_38 (xl_n hn (by decide)) rfl r_1_4 ?_
      refine xw_getI dr_transfer_73 fl_r_231 (by decide) (xl_n hn (by decide)) rfl ?_
      refine xw_if_ne_mi (J := 84) (a := (1 : Int32)) (b := (0 : Int32)) dr_transfer_76 rfl (fun _ E' k' => ?_) (fun _ E' k' => ?_) ?_
      · refine xw_iconst dr_transfer_83 ki_0 ?_
        exact k'
      · refine xw_iconst dr_transfer_79 ki_1 ?_
        refine xw_goto dr_transfer_80 rfl ?_
        exact k'
      refine xw_bipush dr_transfer_84 kb_11 ?_
      refine xw_iload4 dr_transfer_86 ?_
      refine xw_cTu dr_transfer_88 (lk_r_transfer_88 (xl_n hn (by decide)) rfl) ok_x_refuse (mx_refuse hl hn) ⟨Nat.le_of_ble_eq_true rfl, Nat.le_of_ble_eq_true rfl⟩ rfl (fun b19 s20 h_s20 => ?_)
      have hJ_s20 : jx_J s20 := xj_o (jx_refuse hJ_s5) h_s20
      refine xw_iload3 dr_transfer_91 ?_
      refine xw_if_eq' dr_transfer_92 rfl (fun h21 => ?_) (fun h21 => ?_)
      · refine xw_aload0 dr_transfer_103 ?_
        refine xw_aload0 dr_transfer_104 ?_
        refine xw_getR dr_transfer_105 fl_r_38 (xl_n hn (by decide)) rfl r_1_4 ?_
        refine xw_iload2 dr_transfer_108 ?_
        refine xw_cTu dr_transfer_109 (lk_r_transfer_109 (xl_n hn (by decide)) rfl) ok_r_enter (mr_enter hl hn (by decide) (xl_n hn (by decide)) rfl hJ_s20) ⟨Nat.le_of_ble_eq_true rfl, Nat.le_of_ble_eq_true rfl⟩ rfl (fun b22 s23 h_s23 => ?_)
        have hJ_s23 : jx_J s23 := xj_o (jr_enter hJ_s20) h_s23
        exact xw_vret dr_transfer_112 rfl
      · refine xw_aload0 dr_transfer_95 ?_
        refine xw_aload0 dr_transfer_96 ?_
        refine xw_cVi dr_transfer_97 (lk_r_transfer_97 (xl_n hn (by decide)) rfl) ok_r_next (mr_next hl hn) ⟨Nat.le_of_ble_eq_true rfl, Nat.le_of_ble_eq_true rfl⟩ ?_
        refine xw_cTu dr_transfer_100 (lk_r_transfer_100 (xl_n hn (by decide)) rfl) ok_r_pushReturn (mr_pushReturn hl hn hJ_s20) ⟨Nat.le_of_ble_eq_true rfl, Nat.le_of_ble_eq_true rfl⟩ rfl (fun b24 s25 h_s25 => ?_)
        have hJ_s25 : jx_J s25 := xj_o (jr_pushReturn hJ_s20) h_s25
        refine xw_aload0 dr_transfer_103 ?_
        refine xw_aload0 dr_transfer_104 ?_
        refine xw_getR dr_transfer_105 fl_r_38 (xl_n hn (by decide)) rfl r_1_4 ?_
        refine xw_iload2 dr_transfer_108 ?_
        refine xw_cTu dr_transfer_109 (lk_r_transfer_109 (xl_n hn (by decide)) rfl) ok_r_enter (mr_enter hl hn (by decide) (xl_n hn (by decide)) rfl hJ_s25) ⟨Nat.le_of_ble_eq_true rfl, Nat.le_of_ble_eq_true rfl⟩ rfl (fun b26 s27 h_s27 => ?_)
        have hJ_s27 : jx_J s27 := xj_o (jr_enter hJ_s25) h_s27
        exact xw_vret dr_transfer_112 rfl
    · refine xw_iload1 dr_transfer_51 ?_
      refine xw_cVi dr_transfer_52 (lk_r_transfer_52) ok_r_rplOf (mr_rplOf hl hn) ⟨Nat.le_of_ble_eq_true rfl, Nat.le_of_ble_eq_true rfl⟩ ?_
      refine xw_aload0 dr_transfer_55 ?_
      refine xw_getR dr_transfer_56 fl_r_19 (xl_n hn (by decide)) rfl r_1_1 ?_
      refine xw_getI dr_transfer_59 fl_r_157 (by decide) (xl_n hn (by decide)) rfl ?_
      refine xw_icmp_gt' dr_transfer_62 rfl (fun h28 => ?_) (fun h28 => ?_)
      · refine xw_aload0 dr_transfer_113 ?_
        refine xw_getR dr_transfer_114 fl_r_38 (xl_n hn (by decide)) rfl r_1_4 ?_
        refine xw_getI dr_transfer_117 fl_r_179 (by decide) (xl_n hn (by decide)) rfl ?_
        refine xw_bipush dr_transfer_120 kb_7 ?_
        refine xw_icmp_eq_mi (J := 141) (a := (1 : Int32)) (b := (if (s5 13 3) = (5 : Int32) then (1 : Int32) else (0 : Int32))) dr_transfer_122 rfl (fun _ E' k' => ?_) (fun _ E' k' => ?_) ?_
        · refine xw_iconst dr_transfer_136 ki_1 ?_
          refine xw_goto dr_transfer_137 rfl ?_
          exact k'
        · refine xw_aload0 dr_transfer_125 ?_
          refine xw_getR dr_transfer_126 fl_r_38 (xl_n hn (by decide)) rfl r_1_4 ?_
          refine xw_getI dr_transfer_129 fl_r_179 (by decide) (xl_n hn (by decide)) rfl ?_
          refine xw_iconst dr_transfer_132 ki_5 ?_
          refine xw_icmp_ne_mi (J := 141) (a := (1 : Int32)) (b := (0 : Int32)) dr_transfer_133 rfl (fun _ E' k' => ?_) (fun _ E' k' => ?_) ?_
          · refine xw_iconst dr_transfer_140 ki_0 ?_
            exact k'
          · refine xw_iconst dr_transfer_136 ki_1 ?_
            refine xw_goto dr_transfer_137 rfl ?_
            exact k'
          exact k'
        refine xw_li (fun v29 e_v29 => ?_)
        refine xw_istore5 dr_transfer_141 (Nat.le_of_ble_eq_true rfl) rfl ?_
        refine xw_aload0 dr_transfer_143 ?_
        refine xw_getR dr_transfer_144 fl_r_38 (xl_n hn (by decide)) rfl r_1_4 ?_
        refine xw_getI dr_transfer_147 fl_r_182 (by decide) (xl_n hn (by decide)) rfl ?_
        refine xw_aload0 dr_transfer_150 ?_
        refine xw_getR dr_transfer_151 fl_r_19 (xl_n hn (by decide)) rfl r_1_1 ?_
        refine xw_getI dr_transfer_154 fl_r_157 (by decide) (xl_n hn (by decide)) rfl ?_
        refine xw_icmp_lt_mi (J := 179) (a := (0 : Int32)) (b := (if (s5 13 4) < (fr_rplOf a1 s5) then (0 : Int32) else (1 : Int32))) dr_transfer_157 rfl (fun _ E' k' => ?_) (fun _ E' k' => ?_) ?_
        · refine xw_iconst dr_transfer_178 ki_0 ?_
          exact k'
        · refine xw_aload0 dr_transfer_160 ?_
          refine xw_getR dr_transfer_161 fl_r_38 (xl_n hn (by decide)) rfl r_1_4 ?_
          refine xw_getI dr_transfer_164 fl_r_182 (by decide) (xl_n hn (by decide)) rfl ?_
          refine xw_iload1 dr_transfer_167 ?_
          refine xw_cVi dr_transfer_168 (lk_r_transfer_168) ok_r_rplOf (mr_rplOf hl hn) ⟨Nat.le_of_ble_eq_true rfl, Nat.le_of_ble_eq_true rfl⟩ ?_
          refine xw_icmp_lt_mi (J := 179) (a := (0 : Int32)) (b := (1 : Int32)) dr_transfer_171 rfl (fun _ E' k' => ?_) (fun _ E' k' => ?_) ?_
          · refine xw_iconst dr_transfer_178 ki_0 ?_
            exact k'
          · refine xw_iconst dr_transfer_174 ki_1 ?_
            refine xw_goto dr_transfer_175 rfl ?_
            exact k'
          exact k'
        refine xw_li (fun v30 e_v30 => ?_)
        refine xw_istore6 dr_transfer_179 (Nat.le_of_ble_eq_true rfl) rfl ?_
        refine xw_aload0 dr_transfer_181 ?_
        refine xw_getR dr_transfer_182 fl_r_10 (xl_n hn (by decide)) rfl r_1_0 ?_
        refine xw_iload5 dr_transfer_185 ?_
        refine xw_if_eq_mi (J := 200) (a := (1 : Int32)) (b := (if v30 = 0 then (1 : Int32) else (0 : Int32))) dr_transfer_187 rfl (fun _ E' k' => ?_) (fun _ E' k' => ?_) ?_
        · refine xw_iconst dr_transfer_195 ki_1 ?_
          refine xw_goto dr_transfer_196 rfl ?_
          exact k'
        · refine xw_iload6 dr_transfer_190 ?_
          refine xw_if_ne_mi (J := 200) (a := (1 : Int32)) (b := (0 : Int32)) dr_transfer_192 rfl (fun _ E' k' => ?_) (fun _ E' k' => ?_) ?_
          · refine xw_iconst dr_transfer_199 ki_0 ?_
            exact k'
          · refine xw_iconst dr_transfer_195 ki_1 ?_
            refine xw_goto dr_transfer_196 rfl ?_
            exact k'
          exact k'
        refine xw_bipush dr_transfer_200 kb_13 ?_
        refine xw_iload4 dr_transfer_202 ?_
        refine xw_cTu dr_transfer_204 (lk_r_transfer_204 (xl_n hn (by decide)) rfl) ok_x_refuse (mx_refuse hl hn) ⟨Nat.le_of_ble_eq_true rfl, Nat.le_of_ble_eq_true rfl⟩ rfl (fun b31 s32 h_s32 => ?_)
        have hJ_s32 : jx_J s32 := xj_o (jx_refuse hJ_s5) h_s32
        refine xw_aload0 dr_transfer_207 ?_
        refine xw_getR dr_transfer_208 fl_r_10 (xl_n hn (by decide)) rfl r_1_0 ?_
        refine xw_aload0 dr_transfer_211 ?_
        refine xw_getR dr_transfer_212 fl_r_38 (xl_n hn (by decide)) rfl r_1_4 ?_
        refine xw_getI dr_transfer_215 fl_r_231 (by decide) (xl_n hn (by decide)) rfl ?_
        refine xw_if_ne_mi (J := 226) (a := (1 : Int32)) (b := (0 : Int32)) dr_transfer_218 rfl (fun _ E' k' => ?_) (fun _ E' k' => ?_) ?_
        · refine xw_iconst dr_transfer_225 ki_0 ?_
          exact k'
        · refine xw_iconst dr_transfer_221 ki_1 ?_
          refine xw_goto dr_transfer_222 rfl ?_
          exact k'
        refine xw_bipush dr_transfer_226 kb_11 ?_
        refine xw_iload4 dr_transfer_228 ?_
        refine xw_cTu dr_transfer_230 (lk_r_transfer_230 (xl_n hn (by decide)) rfl) ok_x_refuse (mx_refuse hl hn) ⟨Nat.le_of_ble_eq_true rfl, Nat.le_of_ble_eq_true rfl⟩ rfl (fun b33 s34 h_s34 => ?_)
        have hJ_s34 : jx_J s34 := xj_o (jx_refuse hJ_s32) h_s34
        refine xw_aload0 dr_transfer_233 ?_
        refine xw_getR dr_transfer_234 fl_r_38 (xl_n hn (by decide)) rfl r_1_4 ?_
        refine xw_getI dr_transfer_237 fl_r_179 (by decide) (xl_n hn (by decide)) rfl ?_
        refine xw_iconst dr_transfer_240 ki_5 ?_
        refine xw_icmp_ne' dr_transfer_241 rfl (fun h35 => ?_) (fun h35 => ?_)
        · refine xw_aload0 dr_transfer_260 ?_
          refine xw_iload3 dr_transfer_261 ?_
          refine xw_cTu dr_transfer_262 (lk_r_transfer_262 (xl_n hn (by decide)) rfl) ok_r_passGate (mr_passGate hl hn hJ_s34) ⟨Nat.le_of_ble_eq_true rfl, Nat.le_of_ble_eq_true rfl⟩ rfl (fun b36 s37 h_s37 => ?_)
          have hJ_s37 : jx_J s37 := xj_o (jr_passGate hJ_s34) h_s37
          exact xw_vret dr_transfer_265 rfl
        · refine xw_aload0 dr_transfer_244 ?_
          refine xw_iload3 dr_transfer_245 ?_
          refine xw_if_eq_mi (J := 254) (a := (0 : Int32)) (b := (1 : Int32)) dr_transfer_246 rfl (fun _ E' k' => ?_) (fun _ E' k' => ?_) ?_
          · refine xw_iconst dr_transfer_253 ki_0 ?_
            exact k'
          · refine xw_iconst dr_transfer_249 ki_1 ?_
            refine xw_goto dr_transfer_250 rfl ?_
            exact k'
          refine xw_cTu dr_transfer_254 (lk_r_transfer_254 (xl_n hn (by decide)) rfl) ok_r_switchTask (mr_switchTask hl hn hJ_s34) ⟨Nat.le_of_ble_eq_true rfl, Nat.le_of_ble_eq_true rfl⟩ rfl (fun b38 s39 h_s39 => ?_)
          have hJ_s39 : jx_J s39 := xj_o (jr_switchTask hJ_s34) h_s39
          refine xw_goto dr_transfer_257 rfl ?_
          exact xw_vret dr_transfer_265 rfl
      · refine xw_aload0 dr_transfer_65 ?_
        refine xw_getR dr_transfer_66 fl_r_10 (xl_n hn (by decide)) rfl r_1_0 ?_
        refine xw_aload0 dr_transfer_69 ?_
        refine xw_getR dr_transfer_70 fl_r_38 (xl_n hn (by decide)) rfl r_1_4 ?_
        refine xw_getI dr_transfer_73 fl_r_231 (by decide) (xl_n hn (by decide)) rfl ?_
        refine xw_if_ne_mi (J := 84) (a := (1 : Int32)) (b := (0 : Int32)) dr_transfer_76 rfl (fun _ E' k' => ?_) (fun _ E' k' => ?_) ?_
        · refine xw_iconst dr_transfer_83 ki_0 ?_
          exact k'
        · refine xw_iconst dr_transfer_79 ki_1 ?_
          refine xw_goto dr_transfer_80 rfl ?_
          exact k'
        refine xw_bipush dr_transfer_84 kb_11 ?_
        refine xw_iload4 dr_transfer_86 ?_
        refine xw_cTu dr_transfer_88 (lk_r_transfer_88 (xl_n hn (by decide)) rfl) ok_x_refuse (mx_refuse hl hn) ⟨Nat.le_of_ble_eq_true rfl, Nat.le_of_ble_eq_true rfl⟩ rfl (fun b40 s41 h_s41 => ?_)
        have hJ_s41 : jx_J s41 := xj_o (jx_refuse hJ_s5) h_s41
        refine xw_iload3 dr_transfer_91 ?_
        refine xw_if_eq' dr_transfer_92 rfl (fun h42 => ?_) (fun h42 => ?_)
        · refine xw_aload0 dr_transfer_103 ?_
          refine xw_aload0 dr_transfer_104 ?_
          refine xw_getR dr_transfer_105 fl_r_38 (xl_n hn (by decide)) rfl r_1_4 ?_
          refine xw_iload2 dr_transfer_108 ?_
          refine xw_cTu dr_transfer_109 (lk_r_transfer_109 (xl_n hn (by decide)) rfl) ok_r_enter (mr_enter hl hn (by decide) (xl_n hn (by decide)) rfl hJ_s41) ⟨Nat.le_of_ble_eq_true rfl, Nat.le_of_ble_eq_true rfl⟩ rfl (fun b43 s44 h_s44 => ?_)
          have hJ_s44 : jx_J s44 := xj_o (jr_enter hJ_s41) h_s44
          exact xw_vret dr_transfer_112 rfl
        · refine xw_aload0 dr_transfer_95 ?_
          refine xw_aload0 dr_transfer_96 ?_
          refine xw_cVi dr_transfer_97 (lk_r_transfer_97 (xl_n hn (by decide)) rfl) ok_r_next (mr_next hl hn) ⟨Nat.le_of_ble_eq_true rfl, Nat.le_of_ble_eq_true rfl⟩ ?_
          refine xw_cTu dr_transfer_100 (lk_r_transfer_100 (xl_n hn (by decide)) rfl) ok_r_pushReturn (mr_pushReturn hl hn hJ_s41) ⟨Nat.le_of_ble_eq_true rfl, Nat.le_of_ble_eq_true rfl⟩ rfl (fun b45 s46 h_s46 => ?_)
          have hJ_s46 : jx_J s46 := xj_o (jr_pushReturn hJ_s41) h_s46
          refine xw_aload0 dr_transfer_103 ?_
          refine xw_aload0 dr_transfer_104 ?_
          refine xw_getR dr_transfer_105 fl_r_38 (xl_n hn (by decide)) rfl r_1_4 ?_
          refine xw_iload2 dr_transfer_108 ?_
          refine xw_cTu dr_transfer_109 (lk_r_transfer_109 (xl_n hn (by decide)) rfl) ok_r_enter (mr_enter hl hn (by decide) (xl_n hn (by decide)) rfl hJ_s46) ⟨Nat.le_of_ble_eq_true rfl, Nat.le_of_ble_eq_true rfl⟩ rfl (fun b47 s48 h_s48 => ?_)
          have hJ_s48 : jx_J s48 := xj_o (jr_enter hJ_s46) h_s48
          exact xw_vret dr_transfer_112 rfl
theorem jr_transfer {a1 : Int32} {a2 : Int32} {a3 : Int32} {σ : xs_S} (hJ : jx_J σ) : jx_J (fr_transfer a1 a2 a3 σ).2 := by
  unfold fr_transfer
  refine xj_l (fun v1 e_v1 => ?_)
  refine xj_b (jx_refuse hJ) (fun b2 s3 h_s3 hJ_s3 => ?_)
  refine xj_b (jr_lookUp hJ_s3) (fun b4 s5 h_s5 hJ_s5 => ?_)
  refine xj_f (fun h6 => ?_) (fun h6 => ?_)
  · refine xj_l (fun v7 e_v7 => ?_)
    refine xj_l (fun v8 e_v8 => ?_)
    refine xj_b (jx_refuse hJ_s5) (fun b9 s10 h_s10 hJ_s10 => ?_)
    refine xj_b (jx_refuse hJ_s10) (fun b11 s12 h_s12 hJ_s12 => ?_)
    refine xj_f (fun h13 => ?_) (fun h13 => ?_)
    · refine xj_b (jr_switchTask hJ_s12) (fun b16 s17 h_s17 hJ_s17 => ?_)
      exact hJ_s17
    · refine xj_b (jr_passGate hJ_s12) (fun b14 s15 h_s15 hJ_s15 => ?_)
      exact hJ_s15
  · refine xj_f (fun h18 => ?_) (fun h18 => ?_)
    · refine xj_b (jx_refuse hJ_s5) (fun b19 s20 h_s20 hJ_s20 => ?_)
      refine xj_f (fun h21 => ?_) (fun h21 => ?_)
      · refine xj_b (jr_enter hJ_s20) (fun b22 s23 h_s23 hJ_s23 => ?_)
        exact hJ_s23
      · refine xj_b (jr_pushReturn hJ_s20) (fun b24 s25 h_s25 hJ_s25 => ?_)
        refine xj_b (jr_enter hJ_s25) (fun b26 s27 h_s27 hJ_s27 => ?_)
        exact hJ_s27
    · refine xj_f (fun h28 => ?_) (fun h28 => ?_)
      · refine xj_l (fun v29 e_v29 => ?_)
        refine xj_l (fun v30 e_v30 => ?_)
        refine xj_b (jx_refuse hJ_s5) (fun b31 s32 h_s32 hJ_s32 => ?_)
        refine xj_b (jx_refuse hJ_s32) (fun b33 s34 h_s34 hJ_s34 => ?_)
        refine xj_f (fun h35 => ?_) (fun h35 => ?_)
        · refine xj_b (jr_switchTask hJ_s34) (fun b38 s39 h_s39 hJ_s39 => ?_)
          exact hJ_s39
        · refine xj_b (jr_passGate hJ_s34) (fun b36 s37 h_s37 hJ_s37 => ?_)
          exact hJ_s37
      · refine xj_b (jx_refuse hJ_s5) (fun b40 s41 h_s41 hJ_s41 => ?_)
        refine xj_f (fun h42 => ?_) (fun h42 => ?_)
        · refine xj_b (jr_enter hJ_s41) (fun b43 s44 h_s44 hJ_s44 => ?_)
          exact hJ_s44
        · refine xj_b (jr_pushReturn hJ_s41) (fun b45 s46 h_s46 hJ_s46 => ?_)
          refine xj_b (jr_enter hJ_s46) (fun b47 s48 h_s48 hJ_s48 => ?_)
          exact hJ_s48
def fr_far (a1 : Int32) (a2 : Int32) (a3 : Int32) (σ : xs_S) : Int32 × xs_S × Nat := (if (σ 1 12) = 0 then xl_l ((fg_copy_7_3 σ)) (fun s2 => xc_m (fr_transfer (a1 &&& (65535 : Int32)) (a2 &&& (65535 : Int32)) a3 s2) (fun b3 s4 => ((0 : Int32), s4, 0)) (fun s5 => xl_l (fr_settle s5) (fun r => (r.1, r.2.1, r.2.2 + 1)))) else ((-1 : Int32), σ, 0))
set_option maxRecDepth 100000 in
set_option maxHeartbeats 4000000 in
theorem mr_far {l : Launch} {N n u : Nat} {a1 : Int32} {a2 : Int32} {a3 : Int32} {σ : xs_S} (hl : l.stackTraces = false) (hn : 29 ≤ n) (hJ : jx_J σ) : xm_m (xk_k N) l tr_far [.ref 1, .int a1, .int a2, .int a3] (n, u, σ, xr_0) (xe_c n u (fr_far a1 a2 a3 σ)) := by
  refine xm_of hl ok_r_far (Nat.le_of_ble_eq_true rfl) ?_
  show xw_w (xk_k N) l tr_far 0 [some (.ref 1), some (.int a1), some (.int a2), some (.int a3), none] [] (n, u, σ, xr_0) (xe_c n u (fr_far a1 a2 a3 σ))
  unfold fr_far
  refine xw_aload0 dr_far_0 ?_
  refine xw_getI dr_far_1 fl_r_63 (by decide) (xl_n hn (by decide)) rfl ?_
  refine xw_if_eq' dr_far_4 rfl (fun h1 => ?_) (fun h1 => ?_)
  · refine xw_aload0 dr_far_9 ?_
    refine xw_getR dr_far_10 fl_r_23 (xl_n hn (by decide)) rfl r_1_2 ?_
    refine xw_aload0 dr_far_13 ?_
    refine xw_getR dr_far_14 fl_r_19 (xl_n hn (by decide)) rfl r_1_1 ?_
    refine xw_cW dr_far_17 (lk_r_far_17 (xl_n hn (by decide)) rfl) ok_g_copy (mg_copy_7_3 hl hn) ⟨Nat.le_of_ble_eq_true rfl, Nat.le_of_ble_eq_true rfl⟩ ?_
    refine xw_lw (fun s2 e_s2 => ?_)
    have hJ_s2 : jx_J s2 := by rw [e_s2]; exact (jg_copy_7_3 hJ)
    refine xw_aload0 dr_far_20 ?_
    refine xw_iload1 dr_far_21 ?_
    refine xw_ldc dr_far_22 kc_r_87 ?_
    refine xw_iand dr_far_24 ?_
    refine xw_iload2 dr_far_25 ?_
    refine xw_ldc dr_far_26 kc_r_87 ?_
    refine xw_iand dr_far_28 ?_
    refine xw_iload3 dr_far_29 ?_
    refine xw_cC' (p0 := 20) (p1 := 33) (hp := 36) (ct := 95) dr_far_30 (lk_r_far_30 (xl_n hn (by decide)) rfl) ok_r_transfer (mr_transfer hl hn hJ_s2) ⟨Nat.le_of_ble_eq_true rfl, Nat.le_of_ble_eq_true rfl⟩ rfl (by decide) (by decide) xt_l xt_k (by rw [xk_e hn]; decide) (fun b3 s4 h_s4 => ?_) (fun s5 h_s5 => ?_)
    · have hJ_s4 : jx_J s4 := xj_o (jr_transfer hJ_s2) h_s4
      show xw_w _ _ _ _ _ [] _ _
      refine xw_goto dr_far_33 rfl ?_
      refine xw_iconst dr_far_43 ki_0 ?_
      exact xw_iret dr_far_44 rfl
    · have hJ_s5 : jx_J s5 := xj_o (jr_transfer hJ_s2) h_s5
      have hn1 : 29 ≤ n + 1 := Nat.le_succ_of_le hn
      refine xw_astore4 dr_far_36 (Nat.le_of_ble_eq_true rfl) rfl ?_
      refine xw_aload0 dr_far_38 ?_
      refine xw_e xc_e ?_
      refine xw_c0 dr_far_39 (lk_r_far_39 (xl_n hn1 (by decide)) rfl) ok_r_settle (mr_settle hl hn1 hJ_s5) ⟨Nat.le_of_ble_eq_true rfl, Nat.le_of_ble_eq_true rfl⟩ ?_
      exact xw_iret dr_far_42 rfl
  · refine xw_iconst dr_far_7 ki_m1 ?_
    exact xw_iret dr_far_8 rfl
theorem jr_far {a1 : Int32} {a2 : Int32} {a3 : Int32} {σ : xs_S} (hJ : jx_J σ) : jx_J (fr_far a1 a2 a3 σ).2.1 := by
  unfold fr_far
  refine xk_f (fun h1 => ?_) (fun h1 => ?_)
  · refine xk_l (fun s2 e_s2 => ?_)
    have hJ_s2 : jx_J s2 := by rw [e_s2]; exact (jg_copy_7_3 hJ)
    refine xk_m (jr_transfer hJ_s2) (fun b3 s4 h_s4 hJ_s4 => ?_) (fun s5 h_s5 hJ_s5 => ?_)
    · exact hJ_s4
    · exact jr_settle hJ_s5
  · exact hJ
def fr_findReturn (a1 : Int32) (σ : xs_S) : xp_P Unit := xl_l ((fr_codeOf a1 σ)) (fun v1 => xl_l ((fr_rplOf a1 σ)) (fun v2 => xp_b (fx_refuse (fr_isNull a1 σ) (13 : Int32) (0 : Int32) σ) (fun b3 s4 => xp_b (fx_refuse (if (s4 3 6) ≤ v2 then (0 : Int32) else (1 : Int32)) (13 : Int32) v1 s4) (fun b5 s6 => xp_b (fr_lookUp a1 14 s6) (fun b7 s8 => xl_l ((if (s8 14 3) = (1 : Int32) then (if (s8 14 4) = v2 then (1 : Int32) else (if (s8 14 3) = (2 : Int32) then (if v2 < (s8 14 4) then (0 : Int32) else (1 : Int32)) else (0 : Int32))) else (if (s8 14 3) = (2 : Int32) then (if v2 < (s8 14 4) then (0 : Int32) else (1 : Int32)) else (0 : Int32)))) (fun v9 => xp_b (fx_refuse (if v9 = 0 then (1 : Int32) else (0 : Int32)) (13 : Int32) v1 s8) (fun b10 s11 => xp_b (fx_refuse (if (s11 14 6) = 0 then (1 : Int32) else (0 : Int32)) (11 : Int32) v1 s11) (fun b12 s13 => (some (), s13)))))))))
set_option maxRecDepth 100000 in
set_option maxHeartbeats 4000000 in
theorem mr_findReturn {l : Launch} {N n u : Nat} {a1 : Int32} {σ : xs_S} (hl : l.stackTraces = false) (hn : 29 ≤ n) (hJ : jx_J σ) : xm_m (xk_k N) l tr_findReturn [.ref 1, .int a1] (n, u, σ, xr_0) (xe_t eu_u n u (fr_findReturn a1 σ)) := by
  refine xm_of hl ok_r_findReturn (Nat.le_of_ble_eq_true rfl) ?_
  show xw_w (xk_k N) l tr_findReturn 0 [some (.ref 1), some (.int a1), none, none, none] [] (n, u, σ, xr_0) (xe_t eu_u n u (fr_findReturn a1 σ))
  unfold fr_findReturn
  refine xw_iload1 dr_findReturn_0 ?_
  refine xw_cVi dr_findReturn_1 (lk_r_findReturn_1) ok_r_codeOf (mr_codeOf hl hn) ⟨Nat.le_of_ble_eq_true rfl, Nat.le_of_ble_eq_true rfl⟩ ?_
  refine xw_li (fun v1 e_v1 => ?_)
  refine xw_istore2 dr_findReturn_4 (Nat.le_of_ble_eq_true rfl) rfl ?_
  refine xw_iload1 dr_findReturn_5 ?_
  refine xw_cVi dr_findReturn_6 (lk_r_findReturn_6) ok_r_rplOf (mr_rplOf hl hn) ⟨Nat.le_of_ble_eq_true rfl, Nat.le_of_ble_eq_true rfl⟩ ?_
  refine xw_li (fun v2 e_v2 => ?_)
  refine xw_istore3 dr_findReturn_9 (Nat.le_of_ble_eq_true rfl) rfl ?_
  refine xw_aload0 dr_findReturn_10 ?_
  refine xw_getR dr_findReturn_11 fl_r_10 (xl_n hn (by decide)) rfl r_1_0 ?_
  refine xw_iload1 dr_findReturn_14 ?_
  refine xw_cVi dr_findReturn_15 (lk_r_findReturn_15) ok_r_isNull (mr_isNull hl hn) ⟨Nat.le_of_ble_eq_true rfl, Nat.le_of_ble_eq_true rfl⟩ ?_
  refine xw_bipush dr_findReturn_18 kb_13 ?_
  refine xw_iconst dr_findReturn_20 ki_0 ?_
  refine xw_cTu dr_findReturn_21 (lk_r_findReturn_21 (xl_n hn (by decide)) rfl) ok_x_refuse (mx_refuse hl hn) ⟨Nat.le_of_ble_eq_true rfl, Nat.le_of_ble_eq_true rfl⟩ rfl (fun b3 s4 h_s4 => ?_)
  have hJ_s4 : jx_J s4 := xj_o (jx_refuse hJ) h_s4
  refine xw_aload0 dr_findReturn_24 ?_
  refine xw_getR dr_findReturn_25 fl_r_10 (xl_n hn (by decide)) rfl r_1_0 ?_
  refine xw_iload3 dr_findReturn_28 ?_
  refine xw_aload0 dr_findReturn_29 ?_
  refine xw_getR dr_findReturn_30 fl_r_19 (xl_n hn (by decide)) rfl r_1_1 ?_
  refine xw_getI dr_findReturn_33 fl_r_157 (by decide) (xl_n hn (by decide)) rfl ?_
  refine xw_icmp_ge_mi (J := 44) (a := (0 : Int32)) (b := (1 : Int32)) dr_findReturn_36 rfl (fun _ E' k' => ?_) (fun _ E' k' => ?_) ?_
  · refine xw_iconst dr_findReturn_43 ki_0 ?_
    exact k'
  · refine xw_iconst dr_findReturn_39 ki_1 ?_
    refine xw_goto dr_findReturn_40 rfl ?_
    exact k'
  refine xw_bipush dr_findReturn_44 kb_13 ?_
  refine xw_iload2 dr_findReturn_46 ?_
  refine xw_cTu dr_findReturn_47 (lk_r_findReturn_47 (xl_n hn (by decide)) rfl) ok_x_refuse (mx_refuse hl hn) ⟨Nat.le_of_ble_eq_true rfl, Nat.le_of_ble_eq_true rfl⟩ rfl (fun b5 s6 h_s6 => ?_)
  have hJ_s6 : jx_J s6 := xj_o (jx_refuse hJ_s4) h_s6
  refine xw_aload0 dr_findReturn_50 ?_
  refine xw_iload1 dr_findReturn_51 ?_
  refine xw_aload0 dr_findReturn_52 ?_
  refine xw_getR dr_findReturn_53 fl_r_42 (xl_n hn (by decide)) rfl r_1_5 ?_
  refine xw_cTu dr_findReturn_56 (lk_r_findReturn_56 (xl_n hn (by decide)) rfl) ok_r_lookUp (mr_lookUp hl hn (by decide) (xl_n hn (by decide)) rfl hJ_s6) ⟨Nat.le_of_ble_eq_true rfl, Nat.le_of_ble_eq_true rfl⟩ rfl (fun b7 s8 h_s8 => ?_)
  have hJ_s8 : jx_J s8 := xj_o (jr_lookUp hJ_s6) h_s8
  refine xw_aload0 dr_findReturn_59 ?_
  refine xw_getR dr_findReturn_60 fl_r_42 (xl_n hn (by decide)) rfl r_1_5 ?_
  refine xw_getI dr_findReturn_63 fl_r_179 (by decide) (xl_n hn (by decide)) rfl ?_
  refine xw_iconst dr_findReturn_66 ki_1 ?_
  refine xw_icmp_ne_mi (J := 108) (a := (if (s8 14 4) = v2 then (1 : Int32) else (if (s8 14 3) = (2 : Int32) then (if v2 < (s8 14 4) then (0 : Int32) else (1 : Int32)) else (0 : Int32)))) (b := (if (s8 14 3) = (2 : Int32) then (if v2 < (s8 14 4) then (0 : Int32) else (1 : Int32)) else (0 : Int32))) dr_findReturn_67 rfl (fun _ E' k' => ?_) (fun _ E' k' => ?_) ?_
  · refine xw_aload0 dr_findReturn_81 ?_
    refine xw_getR dr_findReturn_82 fl_r_42 (xl_n hn (by decide)) rfl r_1_5 ?_
    refine xw_getI dr_findReturn_85 fl_r_179 (by decide) (xl_n hn (by decide)) rfl ?_
    refine xw_iconst dr_findReturn_88 ki_2 ?_
    refine xw_icmp_ne_mi (J := 108) (a := (if v2 < (s8 14 4) then (0 : Int32) else (1 : Int32))) (b := (0 : Int32)) dr_findReturn_89 rfl (fun _ E' k' => ?_) (fun _ E' k' => ?_) ?_
    · refine xw_iconst dr_findReturn_107 ki_0 ?_
      exact k'
    · refine xw_aload0 dr_findReturn_92 ?_
      refine xw_getR dr_findReturn_93 fl_r_42 (xl_n hn (by decide)) rfl r_1_5 ?_
      refine xw_getI dr_findReturn_96 fl_r_182 (by decide) (xl_n hn (by decide)) rfl ?_
      refine xw_iload3 dr_findReturn_99 ?_
      refine xw_icmp_gt_mi (J := 108) (a := (0 : Int32)) (b := (1 : Int32)) dr_findReturn_100 rfl (fun _ E' k' => ?_) (fun _ E' k' => ?_) ?_
      · refine xw_iconst dr_findReturn_107 ki_0 ?_
        exact k'
      · refine xw_iconst dr_findReturn_103 ki_1 ?_
        refine xw_goto dr_findReturn_104 rfl ?_
        exact k'
      exact k'
    exact k'
  · refine xw_aload0 dr_findReturn_70 ?_
    refine xw_getR dr_findReturn_71 fl_r_42 (xl_n hn (by decide)) rfl r_1_5 ?_
    refine xw_getI dr_findReturn_74 fl_r_182 (by decide) (xl_n hn (by decide)) rfl ?_
    refine xw_iload3 dr_findReturn_77 ?_
    refine xw_icmp_eq_mi (J := 108) (a := (1 : Int32)) (b := (if (s8 14 3) = (2 : Int32) then (if v2 < (s8 14 4) then (0 : Int32) else (1 : Int32)) else (0 : Int32))) dr_findReturn_78 rfl (fun _ E' k' => ?_) (fun _ E' k' => ?_) ?_
    · refine xw_iconst dr_findReturn_103 ki_1 ?_
      refine xw_goto dr_findReturn_104 rfl ?_
      exact k'
    · refine xw_aload0 dr_findReturn_81 ?_
      refine xw_getR dr_findReturn_82 fl_r_42 (xl_n hn (by decide)) rfl r_1_5 ?_
      refine xw_getI dr_findReturn_85 fl_r_179 (by decide) (xl_n hn (by decide)) rfl ?_
      refine xw_iconst dr_findReturn_88 ki_2 ?_
      refine xw_icmp_ne_mi (J := 108) (a := (if v2 < (s8 14 4) then (0 : Int32) else (1 : Int32))) (b := (0 : Int32)) dr_findReturn_89 rfl (fun _ E' k' => ?_) (fun _ E' k' => ?_) ?_
      · refine xw_iconst dr_findReturn_107 ki_0 ?_
        exact k'
      · refine xw_aload0 dr_findReturn_92 ?_
        refine xw_getR dr_findReturn_93 fl_r_42 (xl_n hn (by decide)) rfl r_1_5 ?_
        refine xw_getI dr_findReturn_96 fl_r_182 (by decide) (xl_n hn (by decide)) rfl ?_
        refine xw_iload3 dr_findReturn_99 ?_
        refine xw_icmp_gt_mi (J := 108) (a := (0 : Int32)) (b := (1 : Int32)) dr_findReturn_100 rfl (fun _ E' k' => ?_) (fun _ E' k' => ?_) ?_
        · refine xw_iconst dr_findReturn_107 ki_0 ?_
          exact k'
        · refine xw_iconst dr_findReturn_103 ki_1 ?_
          refine xw_goto dr_findReturn_104 rfl ?_
          exact k'
        exact k'
      exact k'
    exact k'
  refine xw_li (fun v9 e_v9 => ?_)
  refine xw_istore4 dr_findReturn_108 (Nat.le_of_ble_eq_true rfl) rfl ?_
  refine xw_aload0 dr_findReturn_110 ?_
  refine xw_getR dr_findReturn_111 fl_r_10 (xl_n hn (by decide)) rfl r_1_0 ?_
  refine xw_iload4 dr_findReturn_114 ?_
  refine xw_if_ne_mi (J := 124) (a := (1 : Int32)) (b := (0 : Int32)) dr_findReturn_116 rfl (fun _ E' k' => ?_) (fun _ E' k' => ?_) ?_
  · refine xw_iconst dr_findReturn_123 ki_0 ?_
    exact k'
  · refine xw_iconst dr_findReturn_119 ki_1 ?_
    refine xw_goto dr_findReturn_120 rfl ?_
    exact k'
  refine xw_bipush dr_findReturn_124 kb_13 ?_
  refine xw_iload2 dr_findReturn_126 ?_
  refine xw_cTu dr_findReturn_127 (lk_r_findReturn_127 (xl_n hn (by decide)) rfl) ok_x_refuse (mx_refuse hl hn) ⟨Nat.le_of_ble_eq_true rfl, Nat.le_of_ble_eq_true rfl⟩ rfl (fun b10 s11 h_s11 => ?_)
  have hJ_s11 : jx_J s11 := xj_o (jx_refuse hJ_s8) h_s11
  refine xw_aload0 dr_findReturn_130 ?_
  refine xw_getR dr_findReturn_131 fl_r_10 (xl_n hn (by decide)) rfl r_1_0 ?_
  refine xw_aload0 dr_findReturn_134 ?_
  refine xw_getR dr_findReturn_135 fl_r_42 (xl_n hn (by decide)) rfl r_1_5 ?_
  refine xw_getI dr_findReturn_138 fl_r_231 (by decide) (xl_n hn (by decide)) rfl ?_
  refine xw_if_ne_mi (J := 149) (a := (1 : Int32)) (b := (0 : Int32)) dr_findReturn_141 rfl (fun _ E' k' => ?_) (fun _ E' k' => ?_) ?_
  · refine xw_iconst dr_findReturn_148 ki_0 ?_
    exact k'
  · refine xw_iconst dr_findReturn_144 ki_1 ?_
    refine xw_goto dr_findReturn_145 rfl ?_
    exact k'
  refine xw_bipush dr_findReturn_149 kb_11 ?_
  refine xw_iload2 dr_findReturn_151 ?_
  refine xw_cTu dr_findReturn_152 (lk_r_findReturn_152 (xl_n hn (by decide)) rfl) ok_x_refuse (mx_refuse hl hn) ⟨Nat.le_of_ble_eq_true rfl, Nat.le_of_ble_eq_true rfl⟩ rfl (fun b12 s13 h_s13 => ?_)
  have hJ_s13 : jx_J s13 := xj_o (jx_refuse hJ_s11) h_s13
  exact xw_vret dr_findReturn_155 rfl
theorem jr_findReturn {a1 : Int32} {σ : xs_S} (hJ : jx_J σ) : jx_J (fr_findReturn a1 σ).2 := by
  unfold fr_findReturn
  refine xj_l (fun v1 e_v1 => ?_)
  refine xj_l (fun v2 e_v2 => ?_)
  refine xj_b (jx_refuse hJ) (fun b3 s4 h_s4 hJ_s4 => ?_)
  refine xj_b (jx_refuse hJ_s4) (fun b5 s6 h_s6 hJ_s6 => ?_)
  refine xj_b (jr_lookUp hJ_s6) (fun b7 s8 h_s8 hJ_s8 => ?_)
  refine xj_l (fun v9 e_v9 => ?_)
  refine xj_b (jx_refuse hJ_s8) (fun b10 s11 h_s11 hJ_s11 => ?_)
  refine xj_b (jx_refuse hJ_s11) (fun b12 s13 h_s13 hJ_s13 => ?_)
  exact hJ_s13
def fr_findOuterStack (a1 : Int32) (a2 : Int32) (σ : xs_S) : xp_P Unit := xl_l ((fr_codeOf a1 σ)) (fun v1 => xp_b (fx_refuse (fr_isNull a1 σ) (13 : Int32) (0 : Int32) σ) (fun b2 s3 => xp_b (fr_lookUp a1 15 s3) (fun b4 s5 => xl_l ((if (fr_rplOf a1 s5) = a2 then (if (s5 15 3) = (4 : Int32) then (if (s5 15 4) = a2 then (1 : Int32) else (0 : Int32)) else (0 : Int32)) else (0 : Int32))) (fun v6 => xp_b (fx_refuse (if v6 = 0 then (1 : Int32) else (0 : Int32)) (13 : Int32) v1 s5) (fun b7 s8 => xp_b (fx_refuse (if (s8 15 6) = 0 then (1 : Int32) else (0 : Int32)) (12 : Int32) v1 s8) (fun b9 s10 => (some (), s10)))))))
set_option maxRecDepth 100000 in
set_option maxHeartbeats 4000000 in
theorem mr_findOuterStack {l : Launch} {N n u : Nat} {a1 : Int32} {a2 : Int32} {σ : xs_S} (hl : l.stackTraces = false) (hn : 29 ≤ n) (hJ : jx_J σ) : xm_m (xk_k N) l tr_findOuterStack [.ref 1, .int a1, .int a2] (n, u, σ, xr_0) (xe_t eu_u n u (fr_findOuterStack a1 a2 σ)) := by
  refine xm_of hl ok_r_findOuterStack (Nat.le_of_ble_eq_true rfl) ?_
  show xw_w (xk_k N) l tr_findOuterStack 0 [some (.ref 1), some (.int a1), some (.int a2), none, none] [] (n, u, σ, xr_0) (xe_t eu_u n u (fr_findOuterStack a1 a2 σ))
  unfold fr_findOuterStack
  refine xw_iload1 dr_findOuterStack_0 ?_
  refine xw_cVi dr_findOuterStack_1 (lk_r_findOuterStack_1) ok_r_codeOf (mr_codeOf hl hn) ⟨Nat.le_of_ble_eq_true rfl, Nat.le_of_ble_eq_true rfl⟩ ?_
  refine xw_li (fun v1 e_v1 => ?_)
  refine xw_istore3 dr_findOuterStack_4 (Nat.le_of_ble_eq_true rfl) rfl ?_
  refine xw_aload0 dr_findOuterStack_5 ?_
  refine xw_getR dr_findOuterStack_6 fl_r_10 (xl_n hn (by decide)) rfl r_1_0 ?_
  refine xw_iload1 dr_findOuterStack_9 ?_
  refine xw_cVi dr_findOuterStack_10 (lk_r_findOuterStack_10) ok_r_isNull (mr_isNull hl hn) ⟨Nat.le_of_ble_eq_true rfl, Nat.le_of_ble_eq_true rfl⟩ ?_
  refine xw_bipush dr_findOuterStack_13 kb_13 ?_
  refine xw_iconst dr_findOuterStack_15 ki_0 ?_
  refine xw_cTu dr_findOuterStack_16 (lk_r_findOuterStack_16 (xl_n hn (by decide)) rfl) ok_x_refuse (mx_refuse hl hn) ⟨Nat.le_of_ble_eq_true rfl, Nat.le_of_ble_eq_true rfl⟩ rfl (fun b2 s3 h_s3 => ?_)
  have hJ_s3 : jx_J s3 := xj_o (jx_refuse hJ) h_s3
  refine xw_aload0 dr_findOuterStack_19 ?_
  refine xw_iload1 dr_findOuterStack_20 ?_
  refine xw_aload0 dr_findOuterStack_21 ?_
  refine xw_getR dr_findOuterStack_22 fl_r_45 (xl_n hn (by decide)) rfl r_1_6 ?_
  refine xw_cTu dr_findOuterStack_25 (lk_r_findOuterStack_25 (xl_n hn (by decide)) rfl) ok_r_lookUp (mr_lookUp hl hn (by decide) (xl_n hn (by decide)) rfl hJ_s3) ⟨Nat.le_of_ble_eq_true rfl, Nat.le_of_ble_eq_true rfl⟩ rfl (fun b4 s5 h_s5 => ?_)
  have hJ_s5 : jx_J s5 := xj_o (jr_lookUp hJ_s3) h_s5
  refine xw_iload1 dr_findOuterStack_28 ?_
  refine xw_cVi dr_findOuterStack_29 (lk_r_findOuterStack_29) ok_r_rplOf (mr_rplOf hl hn) ⟨Nat.le_of_ble_eq_true rfl, Nat.le_of_ble_eq_true rfl⟩ ?_
  refine xw_iload2 dr_findOuterStack_32 ?_
  refine xw_icmp_ne_mi (J := 63) (a := (if (s5 15 3) = (4 : Int32) then (if (s5 15 4) = a2 then (1 : Int32) else (0 : Int32)) else (0 : Int32))) (b := (0 : Int32)) dr_findOuterStack_33 rfl (fun _ E' k' => ?_) (fun _ E' k' => ?_) ?_
  · refine xw_iconst dr_findOuterStack_62 ki_0 ?_
    exact k'
  · refine xw_aload0 dr_findOuterStack_36 ?_
    refine xw_getR dr_findOuterStack_37 fl_r_45 (xl_n hn (by decide)) rfl r_1_6 ?_
    refine xw_getI dr_findOuterStack_40 fl_r_179 (by decide) (xl_n hn (by decide)) rfl ?_
    refine xw_iconst dr_findOuterStack_43 ki_4 ?_
    refine xw_icmp_ne_mi (J := 63) (a := (if (s5 15 4) = a2 then (1 : Int32) else (0 : Int32))) (b := (0 : Int32)) dr_findOuterStack_44 rfl (fun _ E' k' => ?_) (fun _ E' k' => ?_) ?_
    · refine xw_iconst dr_findOuterStack_62 ki_0 ?_
      exact k'
    · refine xw_aload0 dr_findOuterStack_47 ?_
      refine xw_getR dr_findOuterStack_48 fl_r_45 (xl_n hn (by decide)) rfl r_1_6 ?_
      refine xw_getI dr_findOuterStack_51 fl_r_182 (by decide) (xl_n hn (by decide)) rfl ?_
      refine xw_iload2 dr_findOuterStack_54 ?_
      refine xw_icmp_ne_mi (J := 63) (a := (1 : Int32)) (b := (0 : Int32)) dr_findOuterStack_55 rfl (fun _ E' k' => ?_) (fun _ E' k' => ?_) ?_
      · refine xw_iconst dr_findOuterStack_62 ki_0 ?_
        exact k'
      · refine xw_iconst dr_findOuterStack_58 ki_1 ?_
        refine xw_goto dr_findOuterStack_59 rfl ?_
        exact k'
      exact k'
    exact k'
  refine xw_li (fun v6 e_v6 => ?_)
  refine xw_istore4 dr_findOuterStack_63 (Nat.le_of_ble_eq_true rfl) rfl ?_
  refine xw_aload0 dr_findOuterStack_65 ?_
  refine xw_getR dr_findOuterStack_66 fl_r_10 (xl_n hn (by decide)) rfl r_1_0 ?_
  refine xw_iload4 dr_findOuterStack_69 ?_
  refine xw_if_ne_mi (J := 79) (a := (1 : Int32)) (b := (0 : Int32)) dr_findOuterStack_71 rfl (fun _ E' k' => ?_) (fun _ E' k' => ?_) ?_
  · refine xw_iconst dr_findOuterStack_78 ki_0 ?_
    exact k'
  · refine xw_iconst dr_findOuterStack_74 ki_1 ?_
    refine xw_goto dr_findOuterStack_75 rfl ?_
    exact k'
  refine xw_bipush dr_findOuterStack_79 kb_13 ?_
  refine xw_iload3 dr_findOuterStack_81 ?_
  refine xw_cTu dr_findOuterStack_82 (lk_r_findOuterStack_82 (xl_n hn (by decide)) rfl) ok_x_refuse (mx_refuse hl hn) ⟨Nat.le_of_ble_eq_true rfl, Nat.le_of_ble_eq_true rfl⟩ rfl (fun b7 s8 h_s8 => ?_)
  have hJ_s8 : jx_J s8 := xj_o (jx_refuse hJ_s5) h_s8
  refine xw_aload0 dr_findOuterStack_85 ?_
  refine xw_getR dr_findOuterStack_86 fl_r_10 (xl_n hn (by decide)) rfl r_1_0 ?_
  refine xw_aload0 dr_findOuterStack_89 ?_
  refine xw_getR dr_findOuterStack_90 fl_r_45 (xl_n hn (by decide)) rfl r_1_6 ?_
  refine xw_getI dr_findOuterStack_93 fl_r_231 (by decide) (xl_n hn (by decide)) rfl ?_
  refine xw_if_ne_mi (J := 104) (a := (1 : Int32)) (b := (0 : Int32)) dr_findOuterStack_96 rfl (fun _ E' k' => ?_) (fun _ E' k' => ?_) ?_
  · refine xw_iconst dr_findOuterStack_103 ki_0 ?_
    exact k'
  · refine xw_iconst dr_findOuterStack_99 ki_1 ?_
    refine xw_goto dr_findOuterStack_100 rfl ?_
    exact k'
  refine xw_bipush dr_findOuterStack_104 kb_12 ?_
  refine xw_iload3 dr_findOuterStack_106 ?_
  refine xw_cTu dr_findOuterStack_107 (lk_r_findOuterStack_107 (xl_n hn (by decide)) rfl) ok_x_refuse (mx_refuse hl hn) ⟨Nat.le_of_ble_eq_true rfl, Nat.le_of_ble_eq_true rfl⟩ rfl (fun b9 s10 h_s10 => ?_)
  have hJ_s10 : jx_J s10 := xj_o (jx_refuse hJ_s8) h_s10
  exact xw_vret dr_findOuterStack_110 rfl
theorem jr_findOuterStack {a1 : Int32} {a2 : Int32} {σ : xs_S} (hJ : jx_J σ) : jx_J (fr_findOuterStack a1 a2 σ).2 := by
  unfold fr_findOuterStack
  refine xj_l (fun v1 e_v1 => ?_)
  refine xj_b (jx_refuse hJ) (fun b2 s3 h_s3 hJ_s3 => ?_)
  refine xj_b (jr_lookUp hJ_s3) (fun b4 s5 h_s5 hJ_s5 => ?_)
  refine xj_l (fun v6 e_v6 => ?_)
  refine xj_b (jx_refuse hJ_s5) (fun b7 s8 h_s8 hJ_s8 => ?_)
  refine xj_b (jx_refuse hJ_s8) (fun b9 s10 h_s10 hJ_s10 => ?_)
  exact hJ_s10
def fr_hideData (σ : xs_S) : xs_S := xl_l ((if (fr_isNull (σ 6 0) σ) = 0 then (if (σ 6 3) = (2 : Int32) then (1 : Int32) else (0 : Int32)) else (1 : Int32))) (fun v1 => (if v1 = 0 then (if (σ 3 6) ≤ (σ 6 4) then σ else xl_l ((fd_clear 6 σ)) (fun s4 => s4)) else σ))
set_option maxRecDepth 100000 in
set_option maxHeartbeats 4000000 in
theorem mr_hideData {l : Launch} {N n u : Nat} {σ : xs_S} (hl : l.stackTraces = false) (hn : 29 ≤ n) : xm_m (xk_k N) l tr_hideData [.ref 1] (n, u, σ, xr_0) (xe_w n u (fr_hideData σ)) := by
  refine xm_of hl ok_r_hideData (Nat.le_of_ble_eq_true rfl) ?_
  show xw_w (xk_k N) l tr_hideData 0 [some (.ref 1), none] [] (n, u, σ, xr_0) (xe_w n u (fr_hideData σ))
  unfold fr_hideData
  refine xw_aload0 dr_hideData_0 ?_
  refine xw_getR dr_hideData_1 fl_r_19 (xl_n hn (by decide)) rfl r_1_1 ?_
  refine xw_getR dr_hideData_4 fl_r_148 (xl_n hn (by decide)) rfl r_3_2 ?_
  refine xw_getI dr_hideData_7 fl_r_142 (by decide) (xl_n hn (by decide)) rfl ?_
  refine xw_cVi dr_hideData_10 (lk_r_hideData_10) ok_r_isNull (mr_isNull hl hn) ⟨Nat.le_of_ble_eq_true rfl, Nat.le_of_ble_eq_true rfl⟩ ?_
  refine xw_if_ne_mi (J := 35) (a := (if (σ 6 3) = (2 : Int32) then (1 : Int32) else (0 : Int32))) (b := (1 : Int32)) dr_hideData_13 rfl (fun _ E' k' => ?_) (fun _ E' k' => ?_) ?_
  · refine xw_iconst dr_hideData_30 ki_1 ?_
    refine xw_goto dr_hideData_31 rfl ?_
    exact k'
  · refine xw_aload0 dr_hideData_16 ?_
    refine xw_getR dr_hideData_17 fl_r_19 (xl_n hn (by decide)) rfl r_1_1 ?_
    refine xw_getR dr_hideData_20 fl_r_148 (xl_n hn (by decide)) rfl r_3_2 ?_
    refine xw_getI dr_hideData_23 fl_r_179 (by decide) (xl_n hn (by decide)) rfl ?_
    refine xw_iconst dr_hideData_26 ki_2 ?_
    refine xw_icmp_ne_mi (J := 35) (a := (1 : Int32)) (b := (0 : Int32)) dr_hideData_27 rfl (fun _ E' k' => ?_) (fun _ E' k' => ?_) ?_
    · refine xw_iconst dr_hideData_34 ki_0 ?_
      exact k'
    · refine xw_iconst dr_hideData_30 ki_1 ?_
      refine xw_goto dr_hideData_31 rfl ?_
      exact k'
    exact k'
  refine xw_li (fun v1 e_v1 => ?_)
  refine xw_istore1 dr_hideData_35 (Nat.le_of_ble_eq_true rfl) rfl ?_
  refine xw_iload1 dr_hideData_36 ?_
  refine xw_if_ne' dr_hideData_37 rfl (fun h2 => ?_) (fun h2 => ?_)
  · exact xw_vret dr_hideData_70 rfl
  · refine xw_aload0 dr_hideData_40 ?_
    refine xw_getR dr_hideData_41 fl_r_19 (xl_n hn (by decide)) rfl r_1_1 ?_
    refine xw_getR dr_hideData_44 fl_r_148 (xl_n hn (by decide)) rfl r_3_2 ?_
    refine xw_getI dr_hideData_47 fl_r_182 (by decide) (xl_n hn (by decide)) rfl ?_
    refine xw_aload0 dr_hideData_50 ?_
    refine xw_getR dr_hideData_51 fl_r_19 (xl_n hn (by decide)) rfl r_1_1 ?_
    refine xw_getI dr_hideData_54 fl_r_157 (by decide) (xl_n hn (by decide)) rfl ?_
    refine xw_icmp_ge' dr_hideData_57 rfl (fun h3 => ?_) (fun h3 => ?_)
    · exact xw_vret dr_hideData_70 rfl
    · refine xw_aload0 dr_hideData_60 ?_
      refine xw_getR dr_hideData_61 fl_r_19 (xl_n hn (by decide)) rfl r_1_1 ?_
      refine xw_getR dr_hideData_64 fl_r_148 (xl_n hn (by decide)) rfl r_3_2 ?_
      refine xw_cW dr_hideData_67 (lk_r_hideData_67 (xl_n hn (by decide)) rfl) ok_d_clear (md_clear hl hn (by decide) (xl_n hn (by decide)) rfl) ⟨Nat.le_of_ble_eq_true rfl, Nat.le_of_ble_eq_true rfl⟩ ?_
      refine xw_lw (fun s4 e_s4 => ?_)
      exact xw_vret dr_hideData_70 rfl
theorem jr_hideData {σ : xs_S} (hJ : jx_J σ) : jx_J (fr_hideData σ) := by
  unfold fr_hideData
  refine xj_wl (fun v1 e_v1 => ?_)
  refine xj_wf (fun h2 => ?_) (fun h2 => ?_)
  · refine xj_wf (fun h3 => ?_) (fun h3 => ?_)
    · exact hJ
    · refine xj_wl (fun s4 e_s4 => ?_)
      have hJ_s4 : jx_J s4 := by rw [e_s4]; exact (jd_clear hJ)
      exact hJ_s4
  · exact hJ
def fr_goBack (a1 : Int32) (σ : xs_S) : xp_P Unit := xp_b (fr_popWord σ) (fun b1 s2 => xp_b (fr_popWord s2) (fun b3 s4 => (if a1 = 0 then xl_l ((fr_rplOf b3 s4)) (fun v6 => xp_b (fr_findReturn b3 s4) (fun b7 s8 => xl_l ((if v6 ≤ (s8 3 6) then (0 : Int32) else (1 : Int32))) (fun v9 => (if v9 = 0 then xl_l ((xu_u s8 3 6 v6)) (fun s11 => xp_b (fr_enter 14 b1 s11) (fun b12 s13 => (some (), s13))) else xp_b (fr_popWord s8) (fun b14 s15 => xp_b (fr_popWord s15) (fun b16 s17 => xp_b (fr_findOuterStack b16 v6 s17) (fun b18 s19 => xl_l ((fd_copy 5 15 s19)) (fun s20 => xl_l ((xu_u s20 3 3 b14)) (fun s21 => xl_l ((xu_u s21 3 6 v6)) (fun s22 => xp_b (fr_enter 14 b1 s22) (fun b23 s24 => xl_l ((fr_hideData s24)) (fun s25 => (some (), s25))))))))))))) else xp_b (fr_popWord s4) (fun b26 s27 => xl_l ((xu_u s27 3 5 (b26 &&& (3 : Int32)))) (fun s28 => xl_l ((fr_rplOf b3 s28)) (fun v29 => xp_b (fr_findReturn b3 s28) (fun b30 s31 => xl_l ((if v29 ≤ (s31 3 6) then (0 : Int32) else (1 : Int32))) (fun v32 => (if v32 = 0 then xl_l ((xu_u s31 3 6 v29)) (fun s34 => xp_b (fr_enter 14 b1 s34) (fun b35 s36 => (some (), s36))) else xp_b (fr_popWord s31) (fun b37 s38 => xp_b (fr_popWord s38) (fun b39 s40 => xp_b (fr_findOuterStack b39 v29 s40) (fun b41 s42 => xl_l ((fd_copy 5 15 s42)) (fun s43 => xl_l ((xu_u s43 3 3 b37)) (fun s44 => xl_l ((xu_u s44 3 6 v29)) (fun s45 => xp_b (fr_enter 14 b1 s45) (fun b46 s47 => xl_l ((fr_hideData s47)) (fun s48 => (some (), s48))))))))))))))))))
set_option maxRecDepth 100000 in
set_option maxHeartbeats 4000000 in
theorem mr_goBack {l : Launch} {N n u : Nat} {a1 : Int32} {σ : xs_S} (hl : l.stackTraces = false) (hn : 29 ≤ n) (hJ : jx_J σ) : xm_m (xk_k N) l tr_goBack [.ref 1, .int a1] (n, u, σ, xr_0) (xe_t eu_u n u (fr_goBack a1 σ)) := by
  refine xm_of hl ok_r_goBack (Nat.le_of_ble_eq_true rfl) ?_
  show xw_w (xk_k N) l tr_goBack 0 [some (.ref 1), some (.int a1), none, none, none, none, none] [] (n, u, σ, xr_0) (xe_t eu_u n u (fr_goBack a1 σ))
  unfold fr_goBack
  refine xw_aload0 dr_goBack_0 ?_
  refine xw_cTi dr_goBack_1 (lk_r_goBack_1 (xl_n hn (by decide)) rfl) ok_r_popWord (mr_popWord hl hn hJ) ⟨Nat.le_of_ble_eq_true rfl, Nat.le_of_ble_eq_true rfl⟩ rfl (fun b1 s2 h_s2 => ?_)
  have hJ_s2 : jx_J s2 := xj_o (jr_popWord hJ) h_s2
  refine xw_istore2 dr_goBack_4 (Nat.le_of_ble_eq_true rfl) rfl ?_
  refine xw_aload0 dr_goBack_5 ?_
  refine xw_cTi dr_goBack_6 (lk_r_goBack_6 (xl_n hn (by decide)) rfl) ok_r_popWord (mr_popWord hl hn hJ_s2) ⟨Nat.le_of_ble_eq_true rfl, Nat.le_of_ble_eq_true rfl⟩ rfl (fun b3 s4 h_s4 => ?_)
  have hJ_s4 : jx_J s4 := xj_o (jr_popWord hJ_s2) h_s4
  refine xw_istore3 dr_goBack_9 (Nat.le_of_ble_eq_true rfl) rfl ?_
  refine xw_iload1 dr_goBack_10 ?_
  refine xw_if_eq' dr_goBack_11 rfl (fun h5 => ?_) (fun h5 => ?_)
  · refine xw_iload3 dr_goBack_27 ?_
    refine xw_cVi dr_goBack_28 (lk_r_goBack_28) ok_r_rplOf (mr_rplOf hl hn) ⟨Nat.le_of_ble_eq_true rfl, Nat.le_of_ble_eq_true rfl⟩ ?_
    refine xw_li (fun v6 e_v6 => ?_)
    refine xw_istore4 dr_goBack_31 (Nat.le_of_ble_eq_true rfl) rfl ?_
    refine xw_aload0 dr_goBack_33 ?_
    refine xw_iload3 dr_goBack_34 ?_
    refine xw_cTu dr_goBack_35 (lk_r_goBack_35 (xl_n hn (by decide)) rfl) ok_r_findReturn (mr_findReturn hl hn hJ_s4) ⟨Nat.le_of_ble_eq_true rfl, Nat.le_of_ble_eq_true rfl⟩ rfl (fun b7 s8 h_s8 => ?_)
    have hJ_s8 : jx_J s8 := xj_o (jr_findReturn hJ_s4) h_s8
    refine xw_iload4 dr_goBack_38 ?_
    refine xw_aload0 dr_goBack_40 ?_
    refine xw_getR dr_goBack_41 fl_r_19 (xl_n hn (by decide)) rfl r_1_1 ?_
    refine xw_getI dr_goBack_44 fl_r_157 (by decide) (xl_n hn (by decide)) rfl ?_
    refine xw_icmp_le_mi (J := 55) (a := (0 : Int32)) (b := (1 : Int32)) dr_goBack_47 rfl (fun _ E' k' => ?_) (fun _ E' k' => ?_) ?_
    · refine xw_iconst dr_goBack_54 ki_0 ?_
      exact k'
    · refine xw_iconst dr_goBack_50 ki_1 ?_
      refine xw_goto dr_goBack_51 rfl ?_
      exact k'
    refine xw_li (fun v9 e_v9 => ?_)
    refine xw_istore5 dr_goBack_55 (Nat.le_of_ble_eq_true rfl) rfl ?_
    refine xw_iload5 dr_goBack_57 ?_
    refine xw_if_eq' dr_goBack_59 rfl (fun h10 => ?_) (fun h10 => ?_)
    · refine xw_aload0 dr_goBack_101 ?_
      refine xw_getR dr_goBack_102 fl_r_19 (xl_n hn (by decide)) rfl r_1_1 ?_
      refine xw_iload4 dr_goBack_105 ?_
      refine xw_putI dr_goBack_107 fl_r_157 nf_3_6 (by decide) (xl_n hn (by decide)) rfl ?_
      refine xw_lw (fun s11 e_s11 => ?_)
      have hJ_s11 : jx_J s11 := by rw [e_s11]; exact (jx_u hJ_s8 (by decide))
      refine xw_aload0 dr_goBack_110 ?_
      refine xw_aload0 dr_goBack_111 ?_
      refine xw_getR dr_goBack_112 fl_r_42 (xl_n hn (by decide)) rfl r_1_5 ?_
      refine xw_iload2 dr_goBack_115 ?_
      refine xw_cTu dr_goBack_116 (lk_r_goBack_116 (xl_n hn (by decide)) rfl) ok_r_enter (mr_enter hl hn (by decide) (xl_n hn (by decide)) rfl hJ_s11) ⟨Nat.le_of_ble_eq_true rfl, Nat.le_of_ble_eq_true rfl⟩ rfl (fun b12 s13 h_s13 => ?_)
      have hJ_s13 : jx_J s13 := xj_o (jr_enter hJ_s11) h_s13
      refine xw_iload5 dr_goBack_119 ?_
      refine xw_if_eq_t dr_goBack_121 rfl h10 ?_
      exact xw_vret dr_goBack_128 rfl
    · refine xw_aload0 dr_goBack_62 ?_
      refine xw_cTi dr_goBack_63 (lk_r_goBack_63 (xl_n hn (by decide)) rfl) ok_r_popWord (mr_popWord hl hn hJ_s8) ⟨Nat.le_of_ble_eq_true rfl, Nat.le_of_ble_eq_true rfl⟩ rfl (fun b14 s15 h_s15 => ?_)
      have hJ_s15 : jx_J s15 := xj_o (jr_popWord hJ_s8) h_s15
      refine xw_istore6 dr_goBack_66 (Nat.le_of_ble_eq_true rfl) rfl ?_
      refine xw_aload0 dr_goBack_68 ?_
      refine xw_aload0 dr_goBack_69 ?_
      refine xw_cTi dr_goBack_70 (lk_r_goBack_70 (xl_n hn (by decide)) rfl) ok_r_popWord (mr_popWord hl hn hJ_s15) ⟨Nat.le_of_ble_eq_true rfl, Nat.le_of_ble_eq_true rfl⟩ rfl (fun b16 s17 h_s17 => ?_)
      have hJ_s17 : jx_J s17 := xj_o (jr_popWord hJ_s15) h_s17
      refine xw_iload4 dr_goBack_73 ?_
      refine xw_cTu dr_goBack_75 (lk_r_goBack_75 (xl_n hn (by decide)) rfl) ok_r_findOuterStack (mr_findOuterStack hl hn hJ_s17) ⟨Nat.le_of_ble_eq_true rfl, Nat.le_of_ble_eq_true rfl⟩ rfl (fun b18 s19 h_s19 => ?_)
      have hJ_s19 : jx_J s19 := xj_o (jr_findOuterStack hJ_s17) h_s19
      refine xw_aload0 dr_goBack_78 ?_
      refine xw_getR dr_goBack_79 fl_r_19 (xl_n hn (by decide)) rfl r_1_1 ?_
      refine xw_getR dr_goBack_82 fl_r_145 (xl_n hn (by decide)) rfl r_3_1 ?_
      refine xw_aload0 dr_goBack_85 ?_
      refine xw_getR dr_goBack_86 fl_r_45 (xl_n hn (by decide)) rfl r_1_6 ?_
      refine xw_cW dr_goBack_89 (lk_r_goBack_89 (xl_n hn (by decide)) rfl) ok_d_copy (md_copy hl hn (by decide) (xl_n hn (by decide)) rfl (by decide) (xl_n hn (by decide)) rfl) ⟨Nat.le_of_ble_eq_true rfl, Nat.le_of_ble_eq_true rfl⟩ ?_
      refine xw_lw (fun s20 e_s20 => ?_)
      have hJ_s20 : jx_J s20 := by rw [e_s20]; exact (jd_copy (by decide) hJ_s19)
      refine xw_aload0 dr_goBack_92 ?_
      refine xw_getR dr_goBack_93 fl_r_19 (xl_n hn (by decide)) rfl r_1_1 ?_
      refine xw_iload6 dr_goBack_96 ?_
      refine xw_putI dr_goBack_98 fl_r_151 nf_3_3 (by decide) (xl_n hn (by decide)) rfl ?_
      refine xw_lw (fun s21 e_s21 => ?_)
      have hJ_s21 : jx_J s21 := by rw [e_s21]; exact (jx_u hJ_s20 (by decide))
      refine xw_aload0 dr_goBack_101 ?_
      refine xw_getR dr_goBack_102 fl_r_19 (xl_n hn (by decide)) rfl r_1_1 ?_
      refine xw_iload4 dr_goBack_105 ?_
      refine xw_putI dr_goBack_107 fl_r_157 nf_3_6 (by decide) (xl_n hn (by decide)) rfl ?_
      refine xw_lw (fun s22 e_s22 => ?_)
      have hJ_s22 : jx_J s22 := by rw [e_s22]; exact (jx_u hJ_s21 (by decide))
      refine xw_aload0 dr_goBack_110 ?_
      refine xw_aload0 dr_goBack_111 ?_
      refine xw_getR dr_goBack_112 fl_r_42 (xl_n hn (by decide)) rfl r_1_5 ?_
      refine xw_iload2 dr_goBack_115 ?_
      refine xw_cTu dr_goBack_116 (lk_r_goBack_116 (xl_n hn (by decide)) rfl) ok_r_enter (mr_enter hl hn (by decide) (xl_n hn (by decide)) rfl hJ_s22) ⟨Nat.le_of_ble_eq_true rfl, Nat.le_of_ble_eq_true rfl⟩ rfl (fun b23 s24 h_s24 => ?_)
      have hJ_s24 : jx_J s24 := xj_o (jr_enter hJ_s22) h_s24
      refine xw_iload5 dr_goBack_119 ?_
      refine xw_if_eq_f dr_goBack_121 rfl h10 ?_
      refine xw_aload0 dr_goBack_124 ?_
      refine xw_cW dr_goBack_125 (lk_r_goBack_125 (xl_n hn (by decide)) rfl) ok_r_hideData (mr_hideData hl hn) ⟨Nat.le_of_ble_eq_true rfl, Nat.le_of_ble_eq_true rfl⟩ ?_
      refine xw_lw (fun s25 e_s25 => ?_)
      have hJ_s25 : jx_J s25 := by rw [e_s25]; exact (jr_hideData hJ_s24)
      exact xw_vret dr_goBack_128 rfl
  · refine xw_aload0 dr_goBack_14 ?_
    refine xw_getR dr_goBack_15 fl_r_19 (xl_n hn (by decide)) rfl r_1_1 ?_
    refine xw_aload0 dr_goBack_18 ?_
    refine xw_cTi dr_goBack_19 (lk_r_goBack_19 (xl_n hn (by decide)) rfl) ok_r_popWord (mr_popWord hl hn hJ_s4) ⟨Nat.le_of_ble_eq_true rfl, Nat.le_of_ble_eq_true rfl⟩ rfl (fun b26 s27 h_s27 => ?_)
    have hJ_s27 : jx_J s27 := xj_o (jr_popWord hJ_s4) h_s27
    refine xw_iconst dr_goBack_22 ki_3 ?_
    refine xw_iand dr_goBack_23 ?_
    refine xw_putI dr_goBack_24 fl_r_133 nf_3_5 (by decide) (xl_n hn (by decide)) rfl ?_
    refine xw_lw (fun s28 e_s28 => ?_)
    have hJ_s28 : jx_J s28 := by rw [e_s28]; exact (jx_u hJ_s27 (by decide))
    refine xw_iload3 dr_goBack_27 ?_
    refine xw_cVi dr_goBack_28 (lk_r_goBack_28) ok_r_rplOf (mr_rplOf hl hn) ⟨Nat.le_of_ble_eq_true rfl, Nat.le_of_ble_eq_true rfl⟩ ?_
    refine xw_li (fun v29 e_v29 => ?_)
    refine xw_istore4 dr_goBack_31 (Nat.le_of_ble_eq_true rfl) rfl ?_
    refine xw_aload0 dr_goBack_33 ?_
    refine xw_iload3 dr_goBack_34 ?_
    refine xw_cTu dr_goBack_35 (lk_r_goBack_35 (xl_n hn (by decide)) rfl) ok_r_findReturn (mr_findReturn hl hn hJ_s28) ⟨Nat.le_of_ble_eq_true rfl, Nat.le_of_ble_eq_true rfl⟩ rfl (fun b30 s31 h_s31 => ?_)
    have hJ_s31 : jx_J s31 := xj_o (jr_findReturn hJ_s28) h_s31
    refine xw_iload4 dr_goBack_38 ?_
    refine xw_aload0 dr_goBack_40 ?_
    refine xw_getR dr_goBack_41 fl_r_19 (xl_n hn (by decide)) rfl r_1_1 ?_
    refine xw_getI dr_goBack_44 fl_r_157 (by decide) (xl_n hn (by decide)) rfl ?_
    refine xw_icmp_le_mi (J := 55) (a := (0 : Int32)) (b := (1 : Int32)) dr_goBack_47 rfl (fun _ E' k' => ?_) (fun _ E' k' => ?_) ?_
    · refine xw_iconst dr_goBack_54 ki_0 ?_
      exact k'
    · refine xw_iconst dr_goBack_50 ki_1 ?_
      refine xw_goto dr_goBack_51 rfl ?_
      exact k'
    refine xw_li (fun v32 e_v32 => ?_)
    refine xw_istore5 dr_goBack_55 (Nat.le_of_ble_eq_true rfl) rfl ?_
    refine xw_iload5 dr_goBack_57 ?_
    refine xw_if_eq' dr_goBack_59 rfl (fun h33 => ?_) (fun h33 => ?_)
    · refine xw_aload0 dr_goBack_101 ?_
      refine xw_getR dr_goBack_102 fl_r_19 (xl_n hn (by decide)) rfl r_1_1 ?_
      refine xw_iload4 dr_goBack_105 ?_
      refine xw_putI dr_goBack_107 fl_r_157 nf_3_6 (by decide) (xl_n hn (by decide)) rfl ?_
      refine xw_lw (fun s34 e_s34 => ?_)
      have hJ_s34 : jx_J s34 := by rw [e_s34]; exact (jx_u hJ_s31 (by decide))
      refine xw_aload0 dr_goBack_110 ?_
      refine xw_aload0 dr_goBack_111 ?_
      refine xw_getR dr_goBack_112 fl_r_42 (xl_n hn (by decide)) rfl r_1_5 ?_
      refine xw_iload2 dr_goBack_115 ?_
      refine xw_cTu dr_goBack_116 (lk_r_goBack_116 (xl_n hn (by decide)) rfl) ok_r_enter (mr_enter hl hn (by decide) (xl_n hn (by decide)) rfl hJ_s34) ⟨Nat.le_of_ble_eq_true rfl, Nat.le_of_ble_eq_true rfl⟩ rfl (fun b35 s36 h_s36 => ?_)
      have hJ_s36 : jx_J s36 := xj_o (jr_enter hJ_s34) h_s36
      refine xw_iload5 dr_goBack_119 ?_
      refine xw_if_eq_t dr_goBack_121 rfl h33 ?_
      exact xw_vret dr_goBack_128 rfl
    · refine xw_aload0 dr_goBack_62 ?_
      refine xw_cTi dr_goBack_63 (lk_r_goBack_63 (xl_n hn (by decide)) rfl) ok_r_popWord (mr_popWord hl hn hJ_s31) ⟨Nat.le_of_ble_eq_true rfl, Nat.le_of_ble_eq_true rfl⟩ rfl (fun b37 s38 h_s38 => ?_)
      have hJ_s38 : jx_J s38 := xj_o (jr_popWord hJ_s31) h_s38
      refine xw_istore6 dr_goBack_66 (Nat.le_of_ble_eq_true rfl) rfl ?_
      refine xw_aload0 dr_goBack_68 ?_
      refine xw_aload0 dr_goBack_69 ?_
      refine xw_cTi dr_goBack_70 (lk_r_goBack_70 (xl_n hn (by decide)) rfl) ok_r_popWord (mr_popWord hl hn hJ_s38) ⟨Nat.le_of_ble_eq_true rfl, Nat.le_of_ble_eq_true rfl⟩ rfl (fun b39 s40 h_s40 => ?_)
      have hJ_s40 : jx_J s40 := xj_o (jr_popWord hJ_s38) h_s40
      refine xw_iload4 dr_goBack_73 ?_
      refine xw_cTu dr_goBack_75 (lk_r_goBack_75 (xl_n hn (by decide)) rfl) ok_r_findOuterStack (mr_findOuterStack hl hn hJ_s40) ⟨Nat.le_of_ble_eq_true rfl, Nat.le_of_ble_eq_true rfl⟩ rfl (fun b41 s42 h_s42 => ?_)
      have hJ_s42 : jx_J s42 := xj_o (jr_findOuterStack hJ_s40) h_s42
      refine xw_aload0 dr_goBack_78 ?_
      refine xw_getR dr_goBack_79 fl_r_19 (xl_n hn (by decide)) rfl r_1_1 ?_
      refine xw_getR dr_goBack_82 fl_r_145 (xl_n hn (by decide)) rfl r_3_1 ?_
      refine xw_aload0 dr_goBack_85 ?_
      refine xw_getR dr_goBack_86 fl_r_45 (xl_n hn (by decide)) rfl r_1_6 ?_
      refine xw_cW dr_goBack_89 (lk_r_goBack_89 (xl_n hn (by decide)) rfl) ok_d_copy (md_copy hl hn (by decide) (xl_n hn (by decide)) rfl (by decide) (xl_n hn (by decide)) rfl) ⟨Nat.le_of_ble_eq_true rfl, Nat.le_of_ble_eq_true rfl⟩ ?_
      refine xw_lw (fun s43 e_s43 => ?_)
      have hJ_s43 : jx_J s43 := by rw [e_s43]; exact (jd_copy (by decide) hJ_s42)
      refine xw_aload0 dr_goBack_92 ?_
      refine xw_getR dr_goBack_93 fl_r_19 (xl_n hn (by decide)) rfl r_1_1 ?_
      refine xw_iload6 dr_goBack_96 ?_
      refine xw_putI dr_goBack_98 fl_r_151 nf_3_3 (by decide) (xl_n hn (by decide)) rfl ?_
      refine xw_lw (fun s44 e_s44 => ?_)
      have hJ_s44 : jx_J s44 := by rw [e_s44]; exact (jx_u hJ_s43 (by decide))
      refine xw_aload0 dr_goBack_101 ?_
      refine xw_getR dr_goBack_102 fl_r_19 (xl_n hn (by decide)) rfl r_1_1 ?_
      refine xw_iload4 dr_goBack_105 ?_
      refine xw_putI dr_goBack_107 fl_r_157 nf_3_6 (by decide) (xl_n hn (by decide)) rfl ?_
      refine xw_lw (fun s45 e_s45 => ?_)
      have hJ_s45 : jx_J s45 := by rw [e_s45]; exact (jx_u hJ_s44 (by decide))
      refine xw_aload0 dr_goBack_110 ?_
      refine xw_aload0 dr_goBack_111 ?_
      refine xw_getR dr_goBack_112 fl_r_42 (xl_n hn (by decide)) rfl r_1_5 ?_
      refine xw_iload2 dr_goBack_115 ?_
      refine xw_cTu dr_goBack_116 (lk_r_goBack_116 (xl_n hn (by decide)) rfl) ok_r_enter (mr_enter hl hn (by decide) (xl_n hn (by decide)) rfl hJ_s45) ⟨Nat.le_of_ble_eq_true rfl, Nat.le_of_ble_eq_true rfl⟩ rfl (fun b46 s47 h_s47 => ?_)
      have hJ_s47 : jx_J s47 := xj_o (jr_enter hJ_s45) h_s47
      refine xw_iload5 dr_goBack_119 ?_
      refine xw_if_eq_f dr_goBack_121 rfl h33 ?_
      refine xw_aload0 dr_goBack_124 ?_
      refine xw_cW dr_goBack_125 (lk_r_goBack_125 (xl_n hn (by decide)) rfl) ok_r_hideData (mr_hideData hl hn) ⟨Nat.le_of_ble_eq_true rfl, Nat.le_of_ble_eq_true rfl⟩ ?_
      refine xw_lw (fun s48 e_s48 => ?_)
      have hJ_s48 : jx_J s48 := by rw [e_s48]; exact (jr_hideData hJ_s47)
      exact xw_vret dr_goBack_128 rfl
theorem jr_goBack {a1 : Int32} {σ : xs_S} (hJ : jx_J σ) : jx_J (fr_goBack a1 σ).2 := by
  unfold fr_goBack
  refine xj_b (jr_popWord hJ) (fun b1 s2 h_s2 hJ_s2 => ?_)
  refine xj_b (jr_popWord hJ_s2) (fun b3 s4 h_s4 hJ_s4 => ?_)
  refine xj_f (fun h5 => ?_) (fun h5 => ?_)
  · refine xj_l (fun v6 e_v6 => ?_)
    refine xj_b (jr_findReturn hJ_s4) (fun b7 s8 h_s8 hJ_s8 => ?_)
    refine xj_l (fun v9 e_v9 => ?_)
    refine xj_f (fun h10 => ?_) (fun h10 => ?_)
    · refine xj_l (fun s11 e_s11 => ?_)
      have hJ_s11 : jx_J s11 := by rw [e_s11]; exact (jx_u hJ_s8 (by decide))
      refine xj_b (jr_enter hJ_s11) (fun b12 s13 h_s13 hJ_s13 => ?_)
      exact hJ_s13
    · refine xj_b (jr_popWord hJ_s8) (fun b14 s15 h_s15 hJ_s15 => ?_)
      refine xj_b (jr_popWord hJ_s15) (fun b16 s17 h_s17 hJ_s17 => ?_)
      refine xj_b (jr_findOuterStack hJ_s17) (fun b18 s19 h_s19 hJ_s19 => ?_)
      refine xj_l (fun s20 e_s20 => ?_)
      have hJ_s20 : jx_J s20 := by rw [e_s20]; exact (jd_copy (by decide) hJ_s19)
      refine xj_l (fun s21 e_s21 => ?_)
      have hJ_s21 : jx_J s21 := by rw [e_s21]; exact (jx_u hJ_s20 (by decide))
      refine xj_l (fun s22 e_s22 => ?_)
      have hJ_s22 : jx_J s22 := by rw [e_s22]; exact (jx_u hJ_s21 (by decide))
      refine xj_b (jr_enter hJ_s22) (fun b23 s24 h_s24 hJ_s24 => ?_)
      refine xj_l (fun s25 e_s25 => ?_)
      have hJ_s25 : jx_J s25 := by rw [e_s25]; exact (jr_hideData hJ_s24)
      exact hJ_s25
  · refine xj_b (jr_popWord hJ_s4) (fun b26 s27 h_s27 hJ_s27 => ?_)
    refine xj_l (fun s28 e_s28 => ?_)
    have hJ_s28 : jx_J s28 := by rw [e_s28]; exact (jx_u hJ_s27 (by decide))
    refine xj_l (fun v29 e_v29 => ?_)
    refine xj_b (jr_findReturn hJ_s28) (fun b30 s31 h_s31 hJ_s31 => ?_)
    refine xj_l (fun v32 e_v32 => ?_)
    refine xj_f (fun h33 => ?_) (fun h33 => ?_)
    · refine xj_l (fun s34 e_s34 => ?_)
      have hJ_s34 : jx_J s34 := by rw [e_s34]; exact (jx_u hJ_s31 (by decide))
      refine xj_b (jr_enter hJ_s34) (fun b35 s36 h_s36 hJ_s36 => ?_)
      exact hJ_s36
    · refine xj_b (jr_popWord hJ_s31) (fun b37 s38 h_s38 hJ_s38 => ?_)
      refine xj_b (jr_popWord hJ_s38) (fun b39 s40 h_s40 hJ_s40 => ?_)
      refine xj_b (jr_findOuterStack hJ_s40) (fun b41 s42 h_s42 hJ_s42 => ?_)
      refine xj_l (fun s43 e_s43 => ?_)
      have hJ_s43 : jx_J s43 := by rw [e_s43]; exact (jd_copy (by decide) hJ_s42)
      refine xj_l (fun s44 e_s44 => ?_)
      have hJ_s44 : jx_J s44 := by rw [e_s44]; exact (jx_u hJ_s43 (by decide))
      refine xj_l (fun s45 e_s45 => ?_)
      have hJ_s45 : jx_J s45 := by rw [e_s45]; exact (jx_u hJ_s44 (by decide))
      refine xj_b (jr_enter hJ_s45) (fun b46 s47 h_s47 hJ_s47 => ?_)
      refine xj_l (fun s48 e_s48 => ?_)
      have hJ_s48 : jx_J s48 := by rw [e_s48]; exact (jr_hideData hJ_s47)
      exact hJ_s48
