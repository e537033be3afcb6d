def fr_back (σ : xs_S) : Int32 × xs_S × Nat := (if (σ 1 12) = 0 then xl_l ((fg_copy_7_3 σ)) (fun s2 => xc_m (fr_goBack (0 : Int32) s2) (fun b3 s4 => ((0 : Int32), s4, 0)) (fun s5 => xl_l (fr_settle s5) (fun r => (r.1, r.2.1, r.2.2 + 1)))) else ((-1 : Int32), σ, 0))
set_option maxRecDepth 100000 in
set_option maxHeartbeats 4000000 in
theorem mr_back {l : Launch} {N n u : Nat} {σ : xs_S} (hl : l.stackTraces = false) (hn : 29 ≤ n) (hJ : jx_J σ) : xm_m (xk_k N) l tr_back [.ref 1] (n, u, σ, xr_0) (xe_c n u (fr_back σ)) := by
  refine xm_of hl ok_r_back (Nat.le_of_ble_eq_true rfl) ?_
  show xw_w (xk_k N) l tr_back 0 [some (.ref 1), none] [] (n, u, σ, xr_0) (xe_c n u (fr_back σ))
  unfold fr_back
  refine xw_aload0 dr_back_0 ?_
  refine xw_getI dr_back_1 fl_r_63 (by decide) (xl_n hn (by decide)) rfl ?_
  refine xw_if_eq' dr_back_4 rfl (fun h1 => ?_) (fun h1 => ?_)
  · refine xw_aload0 dr_back_9 ?_
    refine xw_getR dr_back_10 fl_r_23 (xl_n hn (by decide)) rfl r_1_2 ?_
    refine xw_aload0 dr_back_13 ?_
    refine xw_getR dr_back_14 fl_r_19 (xl_n hn (by decide)) rfl r_1_1 ?_
    refine xw_cW dr_back_17 (lk_r_back_17 (xl_n hn (by decide)) rfl) ok_g_copy (mg_copy_7_3 hl hn) ⟨Nat.le_of_ble_eq_true rfl, Nat.le_of_ble_eq_true rfl⟩ ?_
    refine xw_lw (fun s2 e_s2 => ?_)
    have hJ_s2 : jx_J s2 := by rw [e_s2]; exact (jg_copy_7_3 hJ)
    refine xw_aload0 dr_back_20 ?_
    refine xw_iconst dr_back_21 ki_0 ?_
    refine xw_cC' (p0 := 20) (p1 := 25) (hp := 28) (ct := 95) dr_back_22 (lk_r_back_22 (xl_n hn (by decide)) rfl) ok_r_goBack (mr_goBack hl hn hJ_s2) ⟨Nat.le_of_ble_eq_true rfl, Nat.le_of_ble_eq_true rfl⟩ rfl (by decide) (by decide) xt_l xt_k (by rw [xk_e hn]; decide) (fun b3 s4 h_s4 => ?_) (fun s5 h_s5 => ?_)
    · have hJ_s4 : jx_J s4 := xj_o (jr_goBack hJ_s2) h_s4
      show xw_w _ _ _ _ _ [] _ _
      refine xw_goto dr_back_25 rfl ?_
      refine xw_iconst dr_back_34 ki_0 ?_
      exact xw_iret dr_back_35 rfl
    · have hJ_s5 : jx_J s5 := xj_o (jr_goBack hJ_s2) h_s5
      have hn1 : 29 ≤ n + 1 := Nat.le_succ_of_le hn
      refine xw_astore1 dr_back_28 (Nat.le_of_ble_eq_true rfl) rfl ?_
      refine xw_aload0 dr_back_29 ?_
      refine xw_e xc_e ?_
      refine xw_c0 dr_back_30 (lk_r_back_30 (xl_n hn1 (by decide)) rfl) ok_r_settle (mr_settle hl hn1 hJ_s5) ⟨Nat.le_of_ble_eq_true rfl, Nat.le_of_ble_eq_true rfl⟩ ?_
      exact xw_iret dr_back_33 rfl
  · refine xw_iconst dr_back_7 ki_m1 ?_
    exact xw_iret dr_back_8 rfl
theorem jr_back {σ : xs_S} (hJ : jx_J σ) : jx_J (fr_back σ).2.1 := by
  unfold fr_back
  refine xk_f (fun h1 => ?_) (fun h1 => ?_)
  · refine xk_l (fun s2 e_s2 => ?_)
    have hJ_s2 : jx_J s2 := by rw [e_s2]; exact (jg_copy_7_3 hJ)
    refine xk_m (jr_goBack hJ_s2) (fun b3 s4 h_s4 hJ_s4 => ?_) (fun s5 h_s5 hJ_s5 => ?_)
    · exact hJ_s4
    · exact jr_settle hJ_s5
  · exact hJ
def fr_trap (a1 : Int32) (σ : xs_S) : Int32 × xs_S × Nat := (if (σ 1 12) = 0 then xl_l ((fg_copy_7_3 σ)) (fun s2 => xc_m (fr_deliver (a1 &&& (255 : Int32)) (1 : Int32) (0 : Int32) s2) (fun b3 s4 => ((0 : Int32), s4, 0)) (fun s5 => xl_l (fr_settle s5) (fun r => (r.1, r.2.1, r.2.2 + 1)))) else ((-1 : Int32), σ, 0))
set_option maxRecDepth 100000 in
set_option maxHeartbeats 4000000 in
theorem mr_trap {l : Launch} {N n u : Nat} {a1 : Int32} {σ : xs_S} (hl : l.stackTraces = false) (hn : 29 ≤ n) (hJ : jx_J σ) : xm_m (xk_k N) l tr_trap [.ref 1, .int a1] (n, u, σ, xr_0) (xe_c n u (fr_trap a1 σ)) := by
  refine xm_of hl ok_r_trap (Nat.le_of_ble_eq_true rfl) ?_
  show xw_w (xk_k N) l tr_trap 0 [some (.ref 1), some (.int a1), none] [] (n, u, σ, xr_0) (xe_c n u (fr_trap a1 σ))
  unfold fr_trap
  refine xw_aload0 dr_trap_0 ?_
  refine xw_getI dr_trap_1 fl_r_63 (by decide) (xl_n hn (by decide)) rfl ?_
  refine xw_if_eq' dr_trap_4 rfl (fun h1 => ?_) (fun h1 => ?_)
  · refine xw_aload0 dr_trap_9 ?_
    refine xw_getR dr_trap_10 fl_r_23 (xl_n hn (by decide)) rfl r_1_2 ?_
    refine xw_aload0 dr_trap_13 ?_
    refine xw_getR dr_trap_14 fl_r_19 (xl_n hn (by decide)) rfl r_1_1 ?_
    refine xw_cW dr_trap_17 (lk_r_trap_17 (xl_n hn (by decide)) rfl) ok_g_copy (mg_copy_7_3 hl hn) ⟨Nat.le_of_ble_eq_true rfl, Nat.le_of_ble_eq_true rfl⟩ ?_
    refine xw_lw (fun s2 e_s2 => ?_)
    have hJ_s2 : jx_J s2 := by rw [e_s2]; exact (jg_copy_7_3 hJ)
    refine xw_aload0 dr_trap_20 ?_
    refine xw_iload1 dr_trap_21 ?_
    refine xw_sipush dr_trap_22 ks_255 ?_
    refine xw_iand dr_trap_25 ?_
    refine xw_iconst dr_trap_26 ki_1 ?_
    refine xw_iconst dr_trap_27 ki_0 ?_
    refine xw_cC' (p0 := 20) (p1 := 31) (hp := 34) (ct := 95) dr_trap_28 (lk_r_trap_28 (xl_n hn (by decide)) rfl) ok_r_deliver (mr_deliver hl hn hJ_s2) ⟨Nat.le_of_ble_eq_true rfl, Nat.le_of_ble_eq_true rfl⟩ rfl (by decide) (by decide) xt_l xt_k (by rw [xk_e hn]; decide) (fun b3 s4 h_s4 => ?_) (fun s5 h_s5 => ?_)
    · have hJ_s4 : jx_J s4 := xj_o (jr_deliver hJ_s2) h_s4
      show xw_w _ _ _ _ _ [] _ _
      refine xw_goto dr_trap_31 rfl ?_
      refine xw_iconst dr_trap_40 ki_0 ?_
      exact xw_iret dr_trap_41 rfl
    · have hJ_s5 : jx_J s5 := xj_o (jr_deliver hJ_s2) h_s5
      have hn1 : 29 ≤ n + 1 := Nat.le_succ_of_le hn
      refine xw_astore2 dr_trap_34 (Nat.le_of_ble_eq_true rfl) rfl ?_
      refine xw_aload0 dr_trap_35 ?_
      refine xw_e xc_e ?_
      refine xw_c0 dr_trap_36 (lk_r_trap_36 (xl_n hn1 (by decide)) rfl) ok_r_settle (mr_settle hl hn1 hJ_s5) ⟨Nat.le_of_ble_eq_true rfl, Nat.le_of_ble_eq_true rfl⟩ ?_
      exact xw_iret dr_trap_39 rfl
  · refine xw_iconst dr_trap_7 ki_m1 ?_
    exact xw_iret dr_trap_8 rfl
theorem jr_trap {a1 : Int32} {σ : xs_S} (hJ : jx_J σ) : jx_J (fr_trap a1 σ).2.1 := by
  unfold fr_trap
  refine xk_f (fun h1 => ?_) (fun h1 => ?_)
  · refine xk_l (fun s2 e_s2 => ?_)
    have hJ_s2 : jx_J s2 := by rw [e_s2]; exact (jg_copy_7_3 hJ)
    refine xk_m (jr_deliver hJ_s2) (fun b3 s4 h_s4 hJ_s4 => ?_) (fun s5 h_s5 hJ_s5 => ?_)
    · exact hJ_s4
    · exact jr_settle hJ_s5
  · exact hJ
def fr_endTask (σ : xs_S) : xp_P Unit := xp_b (fm_wordAt (σ 3 8) (0 : Int32) σ) (fun b1 s2 => xp_b (fx_refuse (fr_isNull b1 s2) (13 : Int32) (0 : Int32) s2) (fun b3 s4 => xp_b (fr_lookUp b1 13 s4) (fun b5 s6 => xp_b (fx_refuse (if (s6 13 3) = (5 : Int32) then (0 : Int32) else (if (s6 13 3) = (6 : Int32) then (0 : Int32) else (1 : Int32))) (13 : Int32) (0 : Int32) s6) (fun b7 s8 => xp_b (fr_switchTask (2 : Int32) s8) (fun b9 s10 => (some (), s10))))))
set_option maxRecDepth 100000 in
set_option maxHeartbeats 4000000 in
theorem mr_endTask {l : Launch} {N n u : Nat} {σ : xs_S} (hl : l.stackTraces = false) (hn : 29 ≤ n) (hJ : jx_J σ) : xm_m (xk_k N) l tr_endTask [.ref 1] (n, u, σ, xr_0) (xe_t eu_u n u (fr_endTask σ)) := by
  refine xm_of hl ok_r_endTask (Nat.le_of_ble_eq_true rfl) ?_
  show xw_w (xk_k N) l tr_endTask 0 [some (.ref 1), none] [] (n, u, σ, xr_0) (xe_t eu_u n u (fr_endTask σ))
  unfold fr_endTask
  refine xw_aload0 dr_endTask_0 ?_
  refine xw_getR dr_endTask_1 fl_r_31 (xl_n hn (by decide)) rfl r_1_3 ?_
  refine xw_aload0 dr_endTask_4 ?_
  refine xw_getR dr_endTask_5 fl_r_19 (xl_n hn (by decide)) rfl r_1_1 ?_
  refine xw_getI dr_endTask_8 fl_r_163 (by decide) (xl_n hn (by decide)) rfl ?_
  refine xw_iconst dr_endTask_11 ki_0 ?_
  refine xw_cTi dr_endTask_12 (lk_r_endTask_12 (xl_n hn (by decide)) rfl) ok_m_wordAt (mm_wordAt hl hn hJ) ⟨Nat.le_of_ble_eq_true rfl, Nat.le_of_ble_eq_true rfl⟩ rfl (fun b1 s2 h_s2 => ?_)
  have hJ_s2 : jx_J s2 := xj_o (jm_wordAt hJ) h_s2
  refine xw_istore1 dr_endTask_15 (Nat.le_of_ble_eq_true rfl) rfl ?_
  refine xw_aload0 dr_endTask_16 ?_
  refine xw_getR dr_endTask_17 fl_r_10 (xl_n hn (by decide)) rfl r_1_0 ?_
  refine xw_iload1 dr_endTask_20 ?_
  refine xw_cVi dr_endTask_21 (lk_r_endTask_21) ok_r_isNull (mr_isNull hl hn) ⟨Nat.le_of_ble_eq_true rfl, Nat.le_of_ble_eq_true rfl⟩ ?_
  refine xw_bipush dr_endTask_24 kb_13 ?_
  refine xw_iconst dr_endTask_26 ki_0 ?_
  refine xw_cTu dr_endTask_27 (lk_r_endTask_27 (xl_n hn (by decide)) rfl) ok_x_refuse (mx_refuse hl hn) ⟨Nat.le_of_ble_eq_true rfl, Nat.le_of_ble_eq_true rfl⟩ rfl (fun b3 s4 h_s4 => ?_)
  have hJ_s4 : jx_J s4 := xj_o (jx_refuse hJ_s2) h_s4
  refine xw_aload0 dr_endTask_30 ?_
  refine xw_iload1 dr_endTask_31 ?_
  refine xw_aload0 dr_endTask_32 ?_
  refine xw_getR dr_endTask_33 fl_r_38 (xl_n hn (by decide)) rfl r_1_4 ?_
  refine xw_cTu dr_endTask_36 (lk_r_endTask_36 (xl_n hn (by decide)) rfl) ok_r_lookUp (mr_lookUp hl hn (by decide) (xl_n hn (by decide)) rfl hJ_s4) ⟨Nat.le_of_ble_eq_true rfl, Nat.le_of_ble_eq_true rfl⟩ rfl (fun b5 s6 h_s6 => ?_)
  have hJ_s6 : jx_J s6 := xj_o (jr_lookUp hJ_s4) h_s6
  refine xw_aload0 dr_endTask_39 ?_
  refine xw_getR dr_endTask_40 fl_r_10 (xl_n hn (by decide)) rfl r_1_0 ?_
  refine xw_aload0 dr_endTask_43 ?_
  refine xw_getR dr_endTask_44 fl_r_38 (xl_n hn (by decide)) rfl r_1_4 ?_
  refine xw_getI dr_endTask_47 fl_r_179 (by decide) (xl_n hn (by decide)) rfl ?_
  refine xw_iconst dr_endTask_50 ki_5 ?_
  refine xw_icmp_eq_mi (J := 71) (a := (0 : Int32)) (b := (if (s6 13 3) = (6 : Int32) then (0 : Int32) else (1 : Int32))) dr_endTask_51 rfl (fun _ E' k' => ?_) (fun _ E' k' => ?_) ?_
  · refine xw_iconst dr_endTask_70 ki_0 ?_
    exact k'
  · refine xw_aload0 dr_endTask_54 ?_
    refine xw_getR dr_endTask_55 fl_r_38 (xl_n hn (by decide)) rfl r_1_4 ?_
    refine xw_getI dr_endTask_58 fl_r_179 (by decide) (xl_n hn (by decide)) rfl ?_
    refine xw_bipush dr_endTask_61 kb_6 ?_
    refine xw_icmp_eq_mi (J := 71) (a := (0 : Int32)) (b := (1 : Int32)) dr_endTask_63 rfl (fun _ E' k' => ?_) (fun _ E' k' => ?_) ?_
    · refine xw_iconst dr_endTask_70 ki_0 ?_
      exact k'
    · refine xw_iconst dr_endTask_66 ki_1 ?_
      refine xw_goto dr_endTask_67 rfl ?_
      exact k'
    exact k'
  refine xw_bipush dr_endTask_71 kb_13 ?_
  refine xw_iconst dr_endTask_73 ki_0 ?_
  refine xw_cTu dr_endTask_74 (lk_r_endTask_74 (xl_n hn (by decide)) rfl) ok_x_refuse (mx_refuse hl hn) ⟨Nat.le_of_ble_eq_true rfl, Nat.le_of_ble_eq_true rfl⟩ rfl (fun b7 s8 h_s8 => ?_)
  have hJ_s8 : jx_J s8 := xj_o (jx_refuse hJ_s6) h_s8
  refine xw_aload0 dr_endTask_77 ?_
  refine xw_iconst dr_endTask_78 ki_2 ?_
  refine xw_cTu dr_endTask_79 (lk_r_endTask_79 (xl_n hn (by decide)) rfl) ok_r_switchTask (mr_switchTask hl hn hJ_s8) ⟨Nat.le_of_ble_eq_true rfl, Nat.le_of_ble_eq_true rfl⟩ rfl (fun b9 s10 h_s10 => ?_)
  have hJ_s10 : jx_J s10 := xj_o (jr_switchTask hJ_s8) h_s10
  exact xw_vret dr_endTask_82 rfl
theorem jr_endTask {σ : xs_S} (hJ : jx_J σ) : jx_J (fr_endTask σ).2 := by
  unfold fr_endTask
  refine xj_b (jm_wordAt hJ) (fun b1 s2 h_s2 hJ_s2 => ?_)
  refine xj_b (jx_refuse hJ_s2) (fun b3 s4 h_s4 hJ_s4 => ?_)
  refine xj_b (jr_lookUp hJ_s4) (fun b5 s6 h_s6 hJ_s6 => ?_)
  refine xj_b (jx_refuse hJ_s6) (fun b7 s8 h_s8 hJ_s8 => ?_)
  refine xj_b (jr_switchTask hJ_s8) (fun b9 s10 h_s10 hJ_s10 => ?_)
  exact hJ_s10
def fr_end (σ : xs_S) : Int32 × xs_S × Nat := (if (σ 1 12) = 0 then xl_l ((fg_copy_7_3 σ)) (fun s2 => (if ((s2 3 5) &&& (2 : Int32)) = 0 then xc_m (fr_goBack (1 : Int32) s2) (fun b4 s5 => ((0 : Int32), s5, 0)) (fun s6 => xl_l (fr_settle s6) (fun r => (r.1, r.2.1, r.2.2 + 1))) else xc_m (fr_endTask s2) (fun b7 s8 => ((0 : Int32), s8, 0)) (fun s9 => xl_l (fr_settle s9) (fun r => (r.1, r.2.1, r.2.2 + 1))))) else ((-1 : Int32), σ, 0))
set_option maxRecDepth 100000 in
set_option maxHeartbeats 4000000 in
theorem mr_end {l : Launch} {N n u : Nat} {σ : xs_S} (hl : l.stackTraces = false) (hn : 29 ≤ n) (hJ : jx_J σ) : xm_m (xk_k N) l tr_end [.ref 1] (n, u, σ, xr_0) (xe_c n u (fr_end σ)) := by
  refine xm_of hl ok_r_end (Nat.le_of_ble_eq_true rfl) ?_
  show xw_w (xk_k N) l tr_end 0 [some (.ref 1), none] [] (n, u, σ, xr_0) (xe_c n u (fr_end σ))
  unfold fr_end
  refine xw_aload0 dr_end_0 ?_
  refine xw_getI dr_end_1 fl_r_63 (by decide) (xl_n hn (by decide)) rfl ?_
  refine xw_if_eq' dr_end_4 rfl (fun h1 => ?_) (fun h1 => ?_)
  · refine xw_aload0 dr_end_9 ?_
    refine xw_getR dr_end_10 fl_r_23 (xl_n hn (by decide)) rfl r_1_2 ?_
    refine xw_aload0 dr_end_13 ?_
    refine xw_getR dr_end_14 fl_r_19 (xl_n hn (by decide)) rfl r_1_1 ?_
    refine xw_cW dr_end_17 (lk_r_end_17 (xl_n hn (by decide)) rfl) ok_g_copy (mg_copy_7_3 hl hn) ⟨Nat.le_of_ble_eq_true rfl, Nat.le_of_ble_eq_true rfl⟩ ?_
    refine xw_lw (fun s2 e_s2 => ?_)
    have hJ_s2 : jx_J s2 := by rw [e_s2]; exact (jg_copy_7_3 hJ)
    refine xw_aload0 dr_end_20 ?_
    refine xw_getR dr_end_21 fl_r_19 (xl_n hn (by decide)) rfl r_1_1 ?_
    refine xw_getI dr_end_24 fl_r_133 (by decide) (xl_n hn (by decide)) rfl ?_
    refine xw_iconst dr_end_27 ki_2 ?_
    refine xw_iand dr_end_28 ?_
    refine xw_if_eq' dr_end_29 rfl (fun h3 => ?_) (fun h3 => ?_)
    · refine xw_aload0 dr_end_39 ?_
      refine xw_iconst dr_end_40 ki_1 ?_
      refine xw_cC' (p0 := 20) (p1 := 44) (hp := 47) (ct := 95) dr_end_41 (lk_r_end_41 (xl_n hn (by decide)) rfl) ok_r_goBack (mr_goBack hl hn hJ_s2) ⟨Nat.le_of_ble_eq_true rfl, Nat.le_of_ble_eq_true rfl⟩ rfl (by decide) (by decide) xt_l xt_k (by rw [xk_e hn]; decide) (fun b4 s5 h_s5 => ?_) (fun s6 h_s6 => ?_)
      · have hJ_s5 : jx_J s5 := xj_o (jr_goBack hJ_s2) h_s5
        show xw_w _ _ _ _ _ [] _ _
        refine xw_goto dr_end_44 rfl ?_
        refine xw_iconst dr_end_53 ki_0 ?_
        exact xw_iret dr_end_54 rfl
      · have hJ_s6 : jx_J s6 := xj_o (jr_goBack hJ_s2) h_s6
        have hn1 : 29 ≤ n + 1 := Nat.le_succ_of_le hn
        refine xw_astore1 dr_end_47 (Nat.le_of_ble_eq_true rfl) rfl ?_
        refine xw_aload0 dr_end_48 ?_
        refine xw_e xc_e ?_
        refine xw_c0 dr_end_49 (lk_r_end_49 (xl_n hn1 (by decide)) rfl) ok_r_settle (mr_settle hl hn1 hJ_s6) ⟨Nat.le_of_ble_eq_true rfl, Nat.le_of_ble_eq_true rfl⟩ ?_
        exact xw_iret dr_end_52 rfl
    · refine xw_aload0 dr_end_32 ?_
      refine xw_cC' (p0 := 20) (p1 := 44) (hp := 47) (ct := 95) dr_end_33 (lk_r_end_33 (xl_n hn (by decide)) rfl) ok_r_endTask (mr_endTask hl hn hJ_s2) ⟨Nat.le_of_ble_eq_true rfl, Nat.le_of_ble_eq_true rfl⟩ rfl (by decide) (by decide) xt_l xt_k (by rw [xk_e hn]; decide) (fun b7 s8 h_s8 => ?_) (fun s9 h_s9 => ?_)
      · have hJ_s8 : jx_J s8 := xj_o (jr_endTask hJ_s2) h_s8
        show xw_w _ _ _ _ _ [] _ _
        refine xw_goto dr_end_36 rfl ?_
        refine xw_goto dr_end_44 rfl ?_
        refine xw_iconst dr_end_53 ki_0 ?_
        exact xw_iret dr_end_54 rfl
      · have hJ_s9 : jx_J s9 := xj_o (jr_endTask hJ_s2) h_s9
        have hn1 : 29 ≤ n + 1 := Nat.le_succ_of_le hn
        refine xw_astore1 dr_end_47 (Nat.le_of_ble_eq_true rfl) rfl ?_
        refine xw_aload0 dr_end_48 ?_
        refine xw_e xc_e ?_
        refine xw_c0 dr_end_49 (lk_r_end_49 (xl_n hn1 (by decide)) rfl) ok_r_settle (mr_settle hl hn1 hJ_s9) ⟨Nat.le_of_ble_eq_true rfl, Nat.le_of_ble_eq_true rfl⟩ ?_
        exact xw_iret dr_end_52 rfl
  · refine xw_iconst dr_end_7 ki_m1 ?_
    exact xw_iret dr_end_8 rfl
theorem jr_end {σ : xs_S} (hJ : jx_J σ) : jx_J (fr_end σ).2.1 := by
  unfold fr_end
  refine xk_f (fun h1 => ?_) (fun h1 => ?_)
  · refine xk_l (fun s2 e_s2 => ?_)
    have hJ_s2 : jx_J s2 := by rw [e_s2]; exact (jg_copy_7_3 hJ)
    refine xk_f (fun h3 => ?_) (fun h3 => ?_)
    · refine xk_m (jr_goBack hJ_s2) (fun b4 s5 h_s5 hJ_s5 => ?_) (fun s6 h_s6 hJ_s6 => ?_)
      · exact hJ_s5
      · exact jr_settle hJ_s6
    · refine xk_m (jr_endTask hJ_s2) (fun b7 s8 h_s8 hJ_s8 => ?_) (fun s9 h_s9 hJ_s9 => ?_)
      · exact hJ_s8
      · exact jr_settle hJ_s9
  · exact hJ
def fr_register (a1 : Int32) (σ : xs_S) : Int32 := (if a1 = (0 : Int32) then (σ 4 0) else (if a1 = (1 : Int32) then (σ 5 0) else (if a1 = (2 : Int32) then (σ 6 0) else (if a1 = (3 : Int32) then (σ 3 3) else (if a1 = (4 : Int32) then (σ 3 4) else (if a1 = (5 : Int32) then (σ 3 5) else (if a1 = (6 : Int32) then (σ 3 6) else (if a1 = (7 : Int32) then (σ 3 7) else (if a1 = (8 : Int32) then (σ 3 8) else (if a1 = (9 : Int32) then (σ 3 9) else (if a1 = (10 : Int32) then (σ 2 2) else (if a1 = (11 : Int32) then (σ 3 10) else (if a1 = (12 : Int32) then (if (σ 1 12) = 0 then (0 : Int32) else (1 : Int32)) else (-1 : Int32))))))))))))))
set_option maxRecDepth 100000 in
set_option maxHeartbeats 4000000 in
theorem mr_register {l : Launch} {N n u : Nat} {a1 : Int32} {σ : xs_S} (hl : l.stackTraces = false) (hn : 29 ≤ n) : xm_m (xk_k N) l tr_register [.ref 1, .int a1] (n, u, σ, xr_0) (xe_v ei_i n u σ (fr_register a1 σ)) := by
  refine xm_of hl ok_r_register (Nat.le_of_ble_eq_true rfl) ?_
  show xw_w (xk_k N) l tr_register 0 [some (.ref 1), some (.int a1)] [] (n, u, σ, xr_0) (xe_v ei_i n u σ (fr_register a1 σ))
  unfold fr_register
  refine xw_iload1 dr_register_0 ?_
  refine xw_sp (fun h1 => ?_) (fun h1 => ?_)
  · refine xw_tsI (off := 67) dr_register_1 h1 (by decide) (by decide) rfl rfl ?_
    refine xw_aload0 dr_register_68 ?_
    refine xw_getR dr_register_69 fl_r_19 (xl_n hn (by decide)) rfl r_1_1 ?_
    refine xw_getR dr_register_72 fl_r_139 (xl_n hn (by decide)) rfl r_3_0 ?_
    refine xw_getI dr_register_75 fl_r_142 (by decide) (xl_n hn (by decide)) rfl ?_
    exact xw_iret dr_register_78 rfl
  · refine xw_sp (fun h2 => ?_) (fun h2 => ?_)
    · refine xw_tsI (off := 78) dr_register_1 h2 (by decide) (by decide) rfl rfl ?_
      refine xw_aload0 dr_register_79 ?_
      refine xw_getR dr_register_80 fl_r_19 (xl_n hn (by decide)) rfl r_1_1 ?_
      refine xw_getR dr_register_83 fl_r_145 (xl_n hn (by decide)) rfl r_3_1 ?_
      refine xw_getI dr_register_86 fl_r_142 (by decide) (xl_n hn (by decide)) rfl ?_
      exact xw_iret dr_register_89 rfl
    · refine xw_sp (fun h3 => ?_) (fun h3 => ?_)
      · refine xw_tsI (off := 89) dr_register_1 h3 (by decide) (by decide) rfl rfl ?_
        refine xw_aload0 dr_register_90 ?_
        refine xw_getR dr_register_91 fl_r_19 (xl_n hn (by decide)) rfl r_1_1 ?_
        refine xw_getR dr_register_94 fl_r_148 (xl_n hn (by decide)) rfl r_3_2 ?_
        refine xw_getI dr_register_97 fl_r_142 (by decide) (xl_n hn (by decide)) rfl ?_
        exact xw_iret dr_register_100 rfl
      · refine xw_sp (fun h4 => ?_) (fun h4 => ?_)
        · refine xw_tsI (off := 100) dr_register_1 h4 (by decide) (by decide) rfl rfl ?_
          refine xw_aload0 dr_register_101 ?_
          refine xw_getR dr_register_102 fl_r_19 (xl_n hn (by decide)) rfl r_1_1 ?_
          refine xw_getI dr_register_105 fl_r_151 (by decide) (xl_n hn (by decide)) rfl ?_
          exact xw_iret dr_register_108 rfl
        · refine xw_sp (fun h5 => ?_) (fun h5 => ?_)
          · refine xw_tsI (off := 108) dr_register_1 h5 (by decide) (by decide) rfl rfl ?_
            refine xw_aload0 dr_register_109 ?_
            refine xw_getR dr_register_110 fl_r_19 (xl_n hn (by decide)) rfl r_1_1 ?_
            refine xw_getI dr_register_113 fl_r_154 (by decide) (xl_n hn (by decide)) rfl ?_
            exact xw_iret dr_register_116 rfl
          · refine xw_sp (fun h6 => ?_) (fun h6 => ?_)
            · refine xw_tsI (off := 116) dr_register_1 h6 (by decide) (by decide) rfl rfl ?_
              refine xw_aload0 dr_register_117 ?_
              refine xw_getR dr_register_118 fl_r_19 (xl_n hn (by decide)) rfl r_1_1 ?_
              refine xw_getI dr_register_121 fl_r_133 (by decide) (xl_n hn (by decide)) rfl ?_
              exact xw_iret dr_register_124 rfl
            · refine xw_sp (fun h7 => ?_) (fun h7 => ?_)
              · refine xw_tsI (off := 124) dr_register_1 h7 (by decide) (by decide) rfl rfl ?_
                refine xw_aload0 dr_register_125 ?_
                refine xw_getR dr_register_126 fl_r_19 (xl_n hn (by decide)) rfl r_1_1 ?_
                refine xw_getI dr_register_129 fl_r_157 (by decide) (xl_n hn (by decide)) rfl ?_
                exact xw_iret dr_register_132 rfl
              · refine xw_sp (fun h8 => ?_) (fun h8 => ?_)
                · refine xw_tsI (off := 132) dr_register_1 h8 (by decide) (by decide) rfl rfl ?_
                  refine xw_aload0 dr_register_133 ?_
                  refine xw_getR dr_register_134 fl_r_19 (xl_n hn (by decide)) rfl r_1_1 ?_
                  refine xw_getI dr_register_137 fl_r_160 (by decide) (xl_n hn (by decide)) rfl ?_
                  exact xw_iret dr_register_140 rfl
                · refine xw_sp (fun h9 => ?_) (fun h9 => ?_)
                  · refine xw_tsI (off := 140) dr_register_1 h9 (by decide) (by decide) rfl rfl ?_
                    refine xw_aload0 dr_register_141 ?_
                    refine xw_getR dr_register_142 fl_r_19 (xl_n hn (by decide)) rfl r_1_1 ?_
                    refine xw_getI dr_register_145 fl_r_163 (by decide) (xl_n hn (by decide)) rfl ?_
                    exact xw_iret dr_register_148 rfl
                  · refine xw_sp (fun h10 => ?_) (fun h10 => ?_)
                    · refine xw_tsI (off := 148) dr_register_1 h10 (by decide) (by decide) rfl rfl ?_
                      refine xw_aload0 dr_register_149 ?_
                      refine xw_getR dr_register_150 fl_r_19 (xl_n hn (by decide)) rfl r_1_1 ?_
                      refine xw_getI dr_register_153 fl_r_77 (by decide) (xl_n hn (by decide)) rfl ?_
                      exact xw_iret dr_register_156 rfl
                    · refine xw_sp (fun h11 => ?_) (fun h11 => ?_)
                      · refine xw_tsI (off := 156) dr_register_1 h11 (by decide) (by decide) rfl rfl ?_
                        refine xw_aload0 dr_register_157 ?_
                        refine xw_getR dr_register_158 fl_r_10 (xl_n hn (by decide)) rfl r_1_0 ?_
                        refine xw_getI dr_register_161 fl_r_166 (by decide) (xl_n hn (by decide)) rfl ?_
                        exact xw_iret dr_register_164 rfl
                      · refine xw_sp (fun h12 => ?_) (fun h12 => ?_)
                        · refine xw_tsI (off := 164) dr_register_1 h12 (by decide) (by decide) rfl rfl ?_
                          refine xw_aload0 dr_register_165 ?_
                          refine xw_getR dr_register_166 fl_r_19 (xl_n hn (by decide)) rfl r_1_1 ?_
                          refine xw_getI dr_register_169 fl_r_108 (by decide) (xl_n hn (by decide)) rfl ?_
                          exact xw_iret dr_register_172 rfl
                        · refine xw_sp (fun h13 => ?_) (fun h13 => ?_)
                          · refine xw_tsI (off := 172) dr_register_1 h13 (by decide) (by decide) rfl rfl ?_
                            refine xw_aload0 dr_register_173 ?_
                            refine xw_getI dr_register_174 fl_r_63 (by decide) (xl_n hn (by decide)) rfl ?_
                            refine xw_if_eq' dr_register_177 rfl (fun h14 => ?_) (fun h14 => ?_)
                            · refine xw_iconst dr_register_184 ki_0 ?_
                              exact xw_iret dr_register_185 rfl
                            · refine xw_iconst dr_register_180 ki_1 ?_
                              refine xw_goto dr_register_181 rfl ?_
                              exact xw_iret dr_register_185 rfl
                          · refine xw_tsO dr_register_1 (by have q0 := lv_neT h1 (a := 0) rfl; have q1 := lv_neT h2 (a := 1) rfl; have q2 := lv_neT h3 (a := 2) rfl; have q3 := lv_neT h4 (a := 3) rfl; have q4 := lv_neT h5 (a := 4) rfl; have q5 := lv_neT h6 (a := 5) rfl; have q6 := lv_neT h7 (a := 6) rfl; have q7 := lv_neT h8 (a := 7) rfl; have q8 := lv_neT h9 (a := 8) rfl; have q9 := lv_neT h10 (a := 9) rfl; have q10 := lv_neT h11 (a := 10) rfl; have q11 := lv_neT h12 (a := 11) rfl; have q12 := lv_neT h13 (a := 12) rfl; omega) rfl ?_
                            refine xw_iconst dr_register_186 ki_m1 ?_
                            exact xw_iret dr_register_187 rfl
def fr_segment (a1 : Int32) (a2 : Int32) (σ : xs_S) : Int32 := (if a1 < 0 then (-1 : Int32) else (if a1 ≤ (2 : Int32) then (if a2 = (0 : Int32) then (σ (fg_held a1 σ) 1) else (if a2 = (1 : Int32) then (σ (fg_held a1 σ) 2) else (if a2 = (2 : Int32) then (σ (fg_held a1 σ) 3) else (if a2 = (3 : Int32) then (σ (fg_held a1 σ) 4) else (-1 : Int32))))) else (-1 : Int32)))
set_option maxRecDepth 100000 in
set_option maxHeartbeats 4000000 in
theorem mr_segment {l : Launch} {N n u : Nat} {a1 : Int32} {a2 : Int32} {σ : xs_S} (hl : l.stackTraces = false) (hn : 29 ≤ n) : xm_m (xk_k N) l tr_segment [.ref 1, .int a1, .int a2] (n, u, σ, xr_0) (xe_v ei_i n u σ (fr_segment a1 a2 σ)) := by
  refine xm_of hl ok_r_segment (Nat.le_of_ble_eq_true rfl) ?_
  show xw_w (xk_k N) l tr_segment 0 [some (.ref 1), some (.int a1), some (.int a2), none] [] (n, u, σ, xr_0) (xe_v ei_i n u σ (fr_segment a1 a2 σ))
  unfold fr_segment
  refine xw_iload1 dr_segment_0 ?_
  refine xw_if_lt' dr_segment_1 rfl (fun h1 => ?_) (fun h1 => ?_)
  · refine xw_iconst dr_segment_9 ki_m1 ?_
    exact xw_iret dr_segment_10 rfl
  · refine xw_iload1 dr_segment_4 ?_
    refine xw_iconst dr_segment_5 ki_2 ?_
    refine xw_icmp_le' dr_segment_6 rfl (fun h2 => ?_) (fun h2 => ?_)
    · refine xw_aload0 dr_segment_11 ?_
      refine xw_getR dr_segment_12 fl_r_19 (xl_n hn (by decide)) rfl r_1_1 ?_
      refine xw_iload1 dr_segment_15 ?_
      refine xw_cVr dr_segment_16 (lk_r_segment_16 (xl_n hn (by decide)) rfl) ok_g_held (mg_held hl hn) ⟨Nat.le_of_ble_eq_true rfl, Nat.le_of_ble_eq_true rfl⟩ ?_
      refine xw_astore3 dr_segment_19 (Nat.le_of_ble_eq_true rfl) rfl ?_
      refine xw_iload2 dr_segment_20 ?_
      refine xw_sp (fun h3 => ?_) (fun h3 => ?_)
      · refine xw_tsI (off := 31) dr_segment_21 h3 (by decide) (by decide) rfl rfl ?_
        refine xw_aload3 dr_segment_52 ?_
        refine xw_getI dr_segment_53 fl_r_173 (by decide) (xl_n hn he_i) he_k ?_
        exact xw_iret dr_segment_56 rfl
      · refine xw_sp (fun h4 => ?_) (fun h4 => ?_)
        · refine xw_tsI (off := 36) dr_segment_21 h4 (by decide) (by decide) rfl rfl ?_
          refine xw_aload3 dr_segment_57 ?_
          refine xw_getI dr_segment_58 fl_r_176 (by decide) (xl_n hn he_i) he_k ?_
          exact xw_iret dr_segment_61 rfl
        · refine xw_sp (fun h5 => ?_) (fun h5 => ?_)
          · refine xw_tsI (off := 41) dr_segment_21 h5 (by decide) (by decide) rfl rfl ?_
            refine xw_aload3 dr_segment_62 ?_
            refine xw_getI dr_segment_63 fl_r_179 (by decide) (xl_n hn he_i) he_k ?_
            exact xw_iret dr_segment_66 rfl
          · refine xw_sp (fun h6 => ?_) (fun h6 => ?_)
            · refine xw_tsI (off := 46) dr_segment_21 h6 (by decide) (by decide) rfl rfl ?_
              refine xw_aload3 dr_segment_67 ?_
              refine xw_getI dr_segment_68 fl_r_182 (by decide) (xl_n hn he_i) he_k ?_
              exact xw_iret dr_segment_71 rfl
            · refine xw_tsO dr_segment_21 (by have q0 := lv_neT h3 (a := 0) rfl; have q1 := lv_neT h4 (a := 1) rfl; have q2 := lv_neT h5 (a := 2) rfl; have q3 := lv_neT h6 (a := 3) rfl; omega) rfl ?_
              refine xw_iconst dr_segment_72 ki_m1 ?_
              exact xw_iret dr_segment_73 rfl
    · refine xw_iconst dr_segment_9 ki_m1 ?_
      exact xw_iret dr_segment_10 rfl
