def fr_next (σ : xs_S) : Int32 := (((σ 3 4) + (1 : Int32)) &&& (65535 : Int32))
set_option maxRecDepth 100000 in
set_option maxHeartbeats 4000000 in
theorem mr_next {l : Launch} {N n u : Nat} {σ : xs_S} (hl : l.stackTraces = false) (hn : 29 ≤ n) : xm_m (xk_k N) l tr_next [.ref 1] (n, u, σ, xr_0) (xe_v ei_i n u σ (fr_next σ)) := by
  refine xm_of hl ok_r_next (Nat.le_of_ble_eq_true rfl) ?_
  show xw_w (xk_k N) l tr_next 0 [some (.ref 1)] [] (n, u, σ, xr_0) (xe_v ei_i n u σ (fr_next σ))
  unfold fr_next
  refine xw_aload0 dr_next_0 ?_
  refine xw_getR dr_next_1 fl_r_19 (xl_n hn (by decide)) rfl r_1_1 ?_
  refine xw_getI dr_next_4 fl_r_154 (by decide) (xl_n hn (by decide)) rfl ?_
  refine xw_iconst dr_next_7 ki_1 ?_
  refine xw_iadd dr_next_8 ?_
  refine xw_ldc dr_next_9 kc_r_87 ?_
  refine xw_iand dr_next_11 ?_
  exact xw_iret dr_next_12 rfl
def fr_pushReturn (a1 : Int32) (σ : xs_S) : xp_P Unit := xp_b (fr_pushWord (σ 4 0) σ) (fun b1 s2 => xp_b (fr_pushWord a1 s2) (fun b3 s4 => (some (), s4)))
set_option maxRecDepth 100000 in
set_option maxHeartbeats 4000000 in
theorem mr_pushReturn {l : Launch} {N n u : Nat} {a1 : Int32} {σ : xs_S} (hl : l.stackTraces = false) (hn : 29 ≤ n) (hJ : jx_J σ) : xm_m (xk_k N) l tr_pushReturn [.ref 1, .int a1] (n, u, σ, xr_0) (xe_t eu_u n u (fr_pushReturn a1 σ)) := by
  refine xm_of hl ok_r_pushReturn (Nat.le_of_ble_eq_true rfl) ?_
  show xw_w (xk_k N) l tr_pushReturn 0 [some (.ref 1), some (.int a1)] [] (n, u, σ, xr_0) (xe_t eu_u n u (fr_pushReturn a1 σ))
  unfold fr_pushReturn
  refine xw_aload0 dr_pushReturn_0 ?_
  refine xw_aload0 dr_pushReturn_1 ?_
  refine xw_getR dr_pushReturn_2 fl_r_19 (xl_n hn (by decide)) rfl r_1_1 ?_
  refine xw_getR dr_pushReturn_5 fl_r_139 (xl_n hn (by decide)) rfl r_3_0 ?_
  refine xw_getI dr_pushReturn_8 fl_r_142 (by decide) (xl_n hn (by decide)) rfl ?_
  refine xw_cTu dr_pushReturn_11 (lk_r_pushReturn_11 (xl_n hn (by decide)) rfl) ok_r_pushWord (mr_pushWord hl hn hJ) ⟨Nat.le_of_ble_eq_true rfl, Nat.le_of_ble_eq_true rfl⟩ rfl (fun b1 s2 h_s2 => ?_)
  have hJ_s2 : jx_J s2 := xj_o (jr_pushWord hJ) h_s2
  refine xw_aload0 dr_pushReturn_14 ?_
  refine xw_iload1 dr_pushReturn_15 ?_
  refine xw_cTu dr_pushReturn_16 (lk_r_pushReturn_16 (xl_n hn (by decide)) rfl) ok_r_pushWord (mr_pushWord hl hn hJ_s2) ⟨Nat.le_of_ble_eq_true rfl, Nat.le_of_ble_eq_true rfl⟩ rfl (fun b3 s4 h_s4 => ?_)
  have hJ_s4 : jx_J s4 := xj_o (jr_pushWord hJ_s2) h_s4
  exact xw_vret dr_pushReturn_19 rfl
theorem jr_pushReturn {a1 : Int32} {σ : xs_S} (hJ : jx_J σ) : jx_J (fr_pushReturn a1 σ).2 := by
  unfold fr_pushReturn
  refine xj_b (jr_pushWord hJ) (fun b1 s2 h_s2 hJ_s2 => ?_)
  refine xj_b (jr_pushWord hJ_s2) (fun b3 s4 h_s4 hJ_s4 => ?_)
  exact hJ_s4
def fr_enter (a1 : Nat) (a2 : Int32) (σ : xs_S) : xp_P Unit := xp_b (fx_refuse (if a2 ≤ (σ a1 2) then (0 : Int32) else (1 : Int32)) (13 : Int32) (0 : Int32) σ) (fun b1 s2 => xl_l ((fd_copy 4 a1 s2)) (fun s3 => xl_l ((xu_u s3 4 0 ((fr_codeOf (s3 a1 0) s3) + (s3 3 6)))) (fun s4 => xl_l ((xu_u s4 3 4 a2)) (fun s5 => (some (), s5)))))
set_option maxRecDepth 100000 in
set_option maxHeartbeats 4000000 in
theorem mr_enter {l : Launch} {N n u : Nat} {a1 : Nat} {a2 : Int32} {σ : xs_S} (hl : l.stackTraces = false) (hn : 29 ≤ n) (h0_a1 : 0 < a1) (hi_a1 : a1 < n) (hk_a1 : xk_k N a1 = (0, 0)) (hJ : jx_J σ) : xm_m (xk_k N) l tr_enter [.ref 1, .ref a1, .int a2] (n, u, σ, xr_0) (xe_t eu_u n u (fr_enter a1 a2 σ)) := by
  refine xm_of hl ok_r_enter (Nat.le_of_ble_eq_true rfl) ?_
  show xw_w (xk_k N) l tr_enter 0 [some (.ref 1), some (.ref a1), some (.int a2)] [] (n, u, σ, xr_0) (xe_t eu_u n u (fr_enter a1 a2 σ))
  unfold fr_enter
  refine xw_aload0 dr_enter_0 ?_
  refine xw_getR dr_enter_1 fl_r_10 (xl_n hn (by decide)) rfl r_1_0 ?_
  refine xw_iload2 dr_enter_4 ?_
  refine xw_aload1 dr_enter_5 ?_
  refine xw_getI dr_enter_6 fl_r_176 (by decide) hi_a1 hk_a1 ?_
  refine xw_icmp_le_mi (J := 17) (a := (0 : Int32)) (b := (1 : Int32)) dr_enter_9 rfl (fun _ E' k' => ?_) (fun _ E' k' => ?_) ?_
  · refine xw_iconst dr_enter_16 ki_0 ?_
    exact k'
  · refine xw_iconst dr_enter_12 ki_1 ?_
    refine xw_goto dr_enter_13 rfl ?_
    exact k'
  refine xw_bipush dr_enter_17 kb_13 ?_
  refine xw_iconst dr_enter_19 ki_0 ?_
  refine xw_cTu dr_enter_20 (lk_r_enter_20 (xl_n hn (by decide)) rfl) ok_x_refuse (mx_refuse hl hn) ⟨Nat.le_of_ble_eq_true rfl, Nat.le_of_ble_eq_true rfl⟩ rfl (fun b1 s2 h_s2 => ?_)
  have hJ_s2 : jx_J s2 := xj_o (jx_refuse hJ) h_s2
  refine xw_aload0 dr_enter_23 ?_
  refine xw_getR dr_enter_24 fl_r_19 (xl_n hn (by decide)) rfl r_1_1 ?_
  refine xw_getR dr_enter_27 fl_r_139 (xl_n hn (by decide)) rfl r_3_0 ?_
  refine xw_aload1 dr_enter_30 ?_
  refine xw_cW dr_enter_31 (lk_r_enter_31 (xl_n hn (by decide)) rfl) ok_d_copy (md_copy hl hn (by decide) (xl_n hn (by decide)) rfl h0_a1 hi_a1 hk_a1) ⟨Nat.le_of_ble_eq_true rfl, Nat.le_of_ble_eq_true rfl⟩ ?_
  refine xw_lw (fun s3 e_s3 => ?_)
  have hJ_s3 : jx_J s3 := by rw [e_s3]; exact (jd_copy (by decide) hJ_s2)
  refine xw_aload0 dr_enter_34 ?_
  refine xw_getR dr_enter_35 fl_r_19 (xl_n hn (by decide)) rfl r_1_1 ?_
  refine xw_getR dr_enter_38 fl_r_139 (xl_n hn (by decide)) rfl r_3_0 ?_
  refine xw_aload1 dr_enter_41 ?_
  refine xw_getI dr_enter_42 fl_r_142 (by decide) hi_a1 hk_a1 ?_
  refine xw_cVi dr_enter_45 (lk_r_enter_45) ok_r_codeOf (mr_codeOf hl hn) ⟨Nat.le_of_ble_eq_true rfl, Nat.le_of_ble_eq_true rfl⟩ ?_
  refine xw_aload0 dr_enter_48 ?_
  refine xw_getR dr_enter_49 fl_r_19 (xl_n hn (by decide)) rfl r_1_1 ?_
  refine xw_getI dr_enter_52 fl_r_157 (by decide) (xl_n hn (by decide)) rfl ?_
  refine xw_iadd dr_enter_55 ?_
  refine xw_putI dr_enter_56 fl_r_142 nf_0_0 (by decide) (xl_n hn (by decide)) rfl ?_
  refine xw_lw (fun s4 e_s4 => ?_)
  have hJ_s4 : jx_J s4 := by rw [e_s4]; exact (jx_u hJ_s3 (by decide))
  refine xw_aload0 dr_enter_59 ?_
  refine xw_getR dr_enter_60 fl_r_19 (xl_n hn (by decide)) rfl r_1_1 ?_
  refine xw_iload2 dr_enter_63 ?_
  refine xw_putI dr_enter_64 fl_r_154 nf_3_4 (by decide) (xl_n hn (by decide)) rfl ?_
  refine xw_lw (fun s5 e_s5 => ?_)
  have hJ_s5 : jx_J s5 := by rw [e_s5]; exact (jx_u hJ_s4 (by decide))
  exact xw_vret dr_enter_67 rfl
theorem jr_enter {a1 : Nat} {a2 : Int32} {σ : xs_S} (hJ : jx_J σ) : jx_J (fr_enter a1 a2 σ).2 := by
  unfold fr_enter
  refine xj_b (jx_refuse hJ) (fun b1 s2 h_s2 hJ_s2 => ?_)
  refine xj_l (fun s3 e_s3 => ?_)
  have hJ_s3 : jx_J s3 := by rw [e_s3]; exact (jd_copy (by decide) hJ_s2)
  refine xj_l (fun s4 e_s4 => ?_)
  have hJ_s4 : jx_J s4 := by rw [e_s4]; exact (jx_u hJ_s3 (by decide))
  refine xj_l (fun s5 e_s5 => ?_)
  have hJ_s5 : jx_J s5 := by rw [e_s5]; exact (jx_u hJ_s4 (by decide))
  exact hJ_s5
def fr_deliver (a1 : Int32) (a2 : Int32) (a3 : Int32) (σ : xs_S) : xp_P Unit := xp_b (fr_readVectorGate a1 a2 σ) (fun b1 s2 => xp_b (fr_findTarget (1 : Int32) s2) (fun b3 s4 => (if (fr_leadsInwards s4) = 0 then xp_b (fr_pushWord (s4 3 5) s4) (fun b6 s7 => xp_b (fr_pushReturn (if a2 = 0 then (s7 3 4) else (fr_next s7)) s7) (fun b8 s9 => xp_b (fr_enter 14 (s9 13 1) s9) (fun b10 s11 => (if a2 = 0 then xp_b (fr_pushWord a3 s11) (fun b14 s15 => xl_l ((xu_u s15 3 5 ((s15 3 5) &&& (if (s15 13 3) = (8 : Int32) then (-4 : Int32) else (-3 : Int32))))) (fun s16 => (some (), s16))) else xl_l ((xu_u s11 3 5 ((s11 3 5) &&& (if (s11 13 3) = (8 : Int32) then (-4 : Int32) else (-3 : Int32))))) (fun s13 => (some (), s13)))))) else xp_b (fr_findInnerStack s4) (fun b17 s18 => xp_b (fr_changeStack b17 (0 : Int32) s18) (fun b19 s20 => xp_b (fr_pushWord (s20 3 5) s20) (fun b21 s22 => xp_b (fr_pushReturn (if a2 = 0 then (s22 3 4) else (fr_next s22)) s22) (fun b23 s24 => xp_b (fr_enter 14 (s24 13 1) s24) (fun b25 s26 => (if a2 = 0 then xp_b (fr_pushWord a3 s26) (fun b29 s30 => xl_l ((xu_u s30 3 5 ((s30 3 5) &&& (if (s30 13 3) = (8 : Int32) then (-4 : Int32) else (-3 : Int32))))) (fun s31 => (some (), s31))) else xl_l ((xu_u s26 3 5 ((s26 3 5) &&& (if (s26 13 3) = (8 : Int32) then (-4 : Int32) else (-3 : Int32))))) (fun s28 => (some (), s28)))))))))))
set_option maxRecDepth 100000 in
set_option maxHeartbeats 4000000 in
theorem mr_deliver {l : Launch} {N n u : Nat} {a1 : Int32} {a2 : Int32} {a3 : Int32} {σ : xs_S} (hl : l.stackTraces = false) (hn : 29 ≤ n) (hJ : jx_J σ) : xm_m (xk_k N) l tr_deliver [.ref 1, .int a1, .int a2, .int a3] (n, u, σ, xr_0) (xe_t eu_u n u (fr_deliver a1 a2 a3 σ)) := by
  refine xm_of hl ok_r_deliver (Nat.le_of_ble_eq_true rfl) ?_
  show xw_w (xk_k N) l tr_deliver 0 [some (.ref 1), some (.int a1), some (.int a2), some (.int a3)] [] (n, u, σ, xr_0) (xe_t eu_u n u (fr_deliver a1 a2 a3 σ))
  unfold fr_deliver
  refine xw_aload0 dr_deliver_0 ?_
  refine xw_iload1 dr_deliver_1 ?_
  refine xw_iload2 dr_deliver_2 ?_
  refine xw_cTu dr_deliver_3 (lk_r_deliver_3 (xl_n hn (by decide)) rfl) ok_r_readVectorGate (mr_readVectorGate hl hn hJ) ⟨Nat.le_of_ble_eq_true rfl, Nat.le_of_ble_eq_true rfl⟩ rfl (fun b1 s2 h_s2 => ?_)
  have hJ_s2 : jx_J s2 := xj_o (jr_readVectorGate hJ) h_s2
  refine xw_aload0 dr_deliver_6 ?_
  refine xw_iconst dr_deliver_7 ki_1 ?_
  refine xw_cTu dr_deliver_8 (lk_r_deliver_8 (xl_n hn (by decide)) rfl) ok_r_findTarget (mr_findTarget hl hn hJ_s2) ⟨Nat.le_of_ble_eq_true rfl, Nat.le_of_ble_eq_true rfl⟩ rfl (fun b3 s4 h_s4 => ?_)
  have hJ_s4 : jx_J s4 := xj_o (jr_findTarget hJ_s2) h_s4
  refine xw_aload0 dr_deliver_11 ?_
  refine xw_cVi dr_deliver_12 (lk_r_deliver_12 (xl_n hn (by decide)) rfl) ok_r_leadsInwards (mr_leadsInwards hl hn) ⟨Nat.le_of_ble_eq_true rfl, Nat.le_of_ble_eq_true rfl⟩ ?_
  refine xw_if_eq' dr_deliver_15 rfl (fun h5 => ?_) (fun h5 => ?_)
  · refine xw_aload0 dr_deliver_27 ?_
    refine xw_aload0 dr_deliver_28 ?_
    refine xw_getR dr_deliver_29 fl_r_19 (xl_n hn (by decide)) rfl r_1_1 ?_
    refine xw_getI dr_deliver_32 fl_r_133 (by decide) (xl_n hn (by decide)) rfl ?_
    refine xw_cTu dr_deliver_35 (lk_r_deliver_35 (xl_n hn (by decide)) rfl) ok_r_pushWord (mr_pushWord hl hn hJ_s4) ⟨Nat.le_of_ble_eq_true rfl, Nat.le_of_ble_eq_true rfl⟩ rfl (fun b6 s7 h_s7 => ?_)
    have hJ_s7 : jx_J s7 := xj_o (jr_pushWord hJ_s4) h_s7
    refine xw_aload0 dr_deliver_38 ?_
    refine xw_iload2 dr_deliver_39 ?_
    refine xw_if_eq_mi (J := 57) (a := (s7 3 4)) (b := (fr_next s7)) dr_deliver_40 rfl (fun _ E' k' => ?_) (fun _ E' k' => ?_) ?_
    · refine xw_aload0 dr_deliver_50 ?_
      refine xw_getR dr_deliver_51 fl_r_19 (xl_n hn (by decide)) rfl r_1_1 ?_
      refine xw_getI dr_deliver_54 fl_r_154 (by decide) (xl_n hn (by decide)) rfl ?_
      exact k'
    · refine xw_aload0 dr_deliver_43 ?_
      refine xw_cVi dr_deliver_44 (lk_r_deliver_44 (xl_n hn (by decide)) rfl) ok_r_next (mr_next hl hn) ⟨Nat.le_of_ble_eq_true rfl, Nat.le_of_ble_eq_true rfl⟩ ?_
      refine xw_goto dr_deliver_47 rfl ?_
      exact k'
    refine xw_cTu dr_deliver_57 (lk_r_deliver_57 (xl_n hn (by decide)) rfl) ok_r_pushReturn (mr_pushReturn hl hn hJ_s7) ⟨Nat.le_of_ble_eq_true rfl, Nat.le_of_ble_eq_true rfl⟩ rfl (fun b8 s9 h_s9 => ?_)
    have hJ_s9 : jx_J s9 := xj_o (jr_pushReturn hJ_s7) h_s9
    refine xw_aload0 dr_deliver_60 ?_
    refine xw_aload0 dr_deliver_61 ?_
    refine xw_getR dr_deliver_62 fl_r_42 (xl_n hn (by decide)) rfl r_1_5 ?_
    refine xw_aload0 dr_deliver_65 ?_
    refine xw_getR dr_deliver_66 fl_r_38 (xl_n hn (by decide)) rfl r_1_4 ?_
    refine xw_getI dr_deliver_69 fl_r_173 (by decide) (xl_n hn (by decide)) rfl ?_
    refine xw_cTu dr_deliver_72 (lk_r_deliver_72 (xl_n hn (by decide)) rfl) ok_r_enter (mr_enter hl hn (by decide) (xl_n hn (by decide)) rfl hJ_s9) ⟨Nat.le_of_ble_eq_true rfl, Nat.le_of_ble_eq_true rfl⟩ rfl (fun b10 s11 h_s11 => ?_)
    have hJ_s11 : jx_J s11 := xj_o (jr_enter hJ_s9) h_s11
    refine xw_iload2 dr_deliver_75 ?_
    refine xw_if_ne' dr_deliver_76 rfl (fun h12 => ?_) (fun h12 => ?_)
    · refine xw_aload0 dr_deliver_84 ?_
      refine xw_getR dr_deliver_85 fl_r_19 (xl_n hn (by decide)) rfl r_1_1 ?_
      refine xw_dup dr_deliver_88 rfl ?_
      refine xw_getI dr_deliver_89 fl_r_133 (by decide) (xl_n hn (by decide)) rfl ?_
      refine xw_aload0 dr_deliver_92 ?_
      refine xw_getR dr_deliver_93 fl_r_38 (xl_n hn (by decide)) rfl r_1_4 ?_
      refine xw_getI dr_deliver_96 fl_r_179 (by decide) (xl_n hn (by decide)) rfl ?_
      refine xw_bipush dr_deliver_99 kb_8 ?_
      refine xw_icmp_ne_mi (J := 111) (a := (-4 : Int32)) (b := (-3 : Int32)) dr_deliver_101 rfl (fun _ E' k' => ?_) (fun _ E' k' => ?_) ?_
      · refine xw_bipush dr_deliver_109 kb_m3 ?_
        exact k'
      · refine xw_bipush dr_deliver_104 kb_m4 ?_
        refine xw_goto dr_deliver_106 rfl ?_
        exact k'
      refine xw_iand dr_deliver_111 ?_
      refine xw_putI dr_deliver_112 fl_r_133 nf_3_5 (by decide) (xl_n hn (by decide)) rfl ?_
      refine xw_lw (fun s13 e_s13 => ?_)
      have hJ_s13 : jx_J s13 := by rw [e_s13]; exact (jx_u hJ_s11 (by decide))
      exact xw_vret dr_deliver_115 rfl
    · refine xw_aload0 dr_deliver_79 ?_
      refine xw_iload3 dr_deliver_80 ?_
      refine xw_cTu dr_deliver_81 (lk_r_deliver_81 (xl_n hn (by decide)) rfl) ok_r_pushWord (mr_pushWord hl hn hJ_s11) ⟨Nat.le_of_ble_eq_true rfl, Nat.le_of_ble_eq_true rfl⟩ rfl (fun b14 s15 h_s15 => ?_)
      have hJ_s15 : jx_J s15 := xj_o (jr_pushWord hJ_s11) h_s15
      refine xw_aload0 dr_deliver_84 ?_
      refine xw_getR dr_deliver_85 fl_r_19 (xl_n hn (by decide)) rfl r_1_1 ?_
      refine xw_dup dr_deliver_88 rfl ?_
      refine xw_getI dr_deliver_89 fl_r_133 (by decide) (xl_n hn (by decide)) rfl ?_
      refine xw_aload0 dr_deliver_92 ?_
      refine xw_getR dr_deliver_93 fl_r_38 (xl_n hn (by decide)) rfl r_1_4 ?_
      refine xw_getI dr_deliver_96 fl_r_179 (by decide) (xl_n hn (by decide)) rfl ?_
      refine xw_bipush dr_deliver_99 kb_8 ?_
      refine xw_icmp_ne_mi (J := 111) (a := (-4 : Int32)) (b := (-3 : Int32)) dr_deliver_101 rfl (fun _ E' k' => ?_) (fun _ E' k' => ?_) ?_
      · refine xw_bipush dr_deliver_109 kb_m3 ?_
        exact k'
      · refine xw_bipush dr_deliver_104 kb_m4 ?_
        refine xw_goto dr_deliver_106 rfl ?_
        exact k'
      refine xw_iand dr_deliver_111 ?_
      refine xw_putI dr_deliver_112 fl_r_133 nf_3_5 (by decide) (xl_n hn (by decide)) rfl ?_
      refine xw_lw (fun s16 e_s16 => ?_)
      have hJ_s16 : jx_J s16 := by rw [e_s16]; exact (jx_u hJ_s15 (by decide))
      exact xw_vret dr_deliver_115 rfl
  · refine xw_aload0 dr_deliver_18 ?_
    refine xw_aload0 dr_deliver_19 ?_
    refine xw_cTi dr_deliver_20 (lk_r_deliver_20 (xl_n hn (by decide)) rfl) ok_r_findInnerStack (mr_findInnerStack hl hn hJ_s4) ⟨Nat.le_of_ble_eq_true rfl, Nat.le_of_ble_eq_true rfl⟩ rfl (fun b17 s18 h_s18 => ?_)
    have hJ_s18 : jx_J s18 := xj_o (jr_findInnerStack hJ_s4) h_s18
    refine xw_iconst dr_deliver_23 ki_0 ?_
    refine xw_cTu dr_deliver_24 (lk_r_deliver_24 (xl_n hn (by decide)) rfl) ok_r_changeStack (mr_changeStack hl hn jr_0 hJ_s18) ⟨Nat.le_of_ble_eq_true rfl, Nat.le_of_ble_eq_true rfl⟩ rfl (fun b19 s20 h_s20 => ?_)
    have hJ_s20 : jx_J s20 := xj_o (jr_changeStack hJ_s18) h_s20
    refine xw_aload0 dr_deliver_27 ?_
    refine xw_aload0 dr_deliver_28 ?_
    refine xw_getR dr_deliver_29 fl_r_19 (xl_n hn (by decide)) rfl r_1_1 ?_
    refine xw_getI dr_deliver_32 fl_r_133 (by decide) (xl_n hn (by decide)) rfl ?_
    refine xw_cTu dr_deliver_35 (lk_r_deliver_35 (xl_n hn (by decide)) rfl) ok_r_pushWord (mr_pushWord hl hn hJ_s20) ⟨Nat.le_of_ble_eq_true rfl, Nat.le_of_ble_eq_true rfl⟩ rfl (fun b21 s22 h_s22 => ?_)
    have hJ_s22 : jx_J s22 := xj_o (jr_pushWord hJ_s20) h_s22
    refine xw_aload0 dr_deliver_38 ?_
    refine xw_iload2 dr_deliver_39 ?_
    refine xw_if_eq_mi (J := 57) (a := (s22 3 4)) (b := (fr_next s22)) dr_deliver_40 rfl (fun _ E' k' => ?_) (fun _ E' k' => ?_) ?_
    · refine xw_aload0 dr_deliver_50 ?_
      refine xw_getR dr_deliver_51 fl_r_19 (xl_n hn (by decide)) rfl r_1_1 ?_
      refine xw_getI dr_deliver_54 fl_r_154 (by decide) (xl_n hn (by decide)) rfl ?_
      exact k'
    · refine xw_aload0 dr_deliver_43 ?_
      refine xw_cVi dr_deliver_44 (lk_r_deliver_44 (xl_n hn (by decide)) rfl) ok_r_next (mr_next hl hn) ⟨Nat.le_of_ble_eq_true rfl, Nat.le_of_ble_eq_true rfl⟩ ?_
      refine xw_goto dr_deliver_47 rfl ?_
      exact k'
    refine xw_cTu dr_deliver_57 (lk_r_deliver_57 (xl_n hn (by decide)) rfl) ok_r_pushReturn (mr_pushReturn hl hn hJ_s22) ⟨Nat.le_of_ble_eq_true rfl, Nat.le_of_ble_eq_true rfl⟩ rfl (fun b23 s24 h_s24 => ?_)
    have hJ_s24 : jx_J s24 := xj_o (jr_pushReturn hJ_s22) h_s24
    refine xw_aload0 dr_deliver_60 ?_
    refine xw_aload0 dr_deliver_61 ?_
    refine xw_getR dr_deliver_62 fl_r_42 (xl_n hn (by decide)) rfl r_1_5 ?_
    refine xw_aload0 dr_deliver_65 ?_
    refine xw_getR dr_deliver_66 fl_r_38 (xl_n hn (by decide)) rfl r_1_4 ?_
    refine xw_getI dr_deliver_69 fl_r_173 (by decide) (xl_n hn (by decide)) rfl ?_
    refine xw_cTu dr_deliver_72 (lk_r_deliver_72 (xl_n hn (by decide)) rfl) ok_r_enter (mr_enter hl hn (by decide) (xl_n hn (by decide)) rfl hJ_s24) ⟨Nat.le_of_ble_eq_true rfl, Nat.le_of_ble_eq_true rfl⟩ rfl (fun b25 s26 h_s26 => ?_)
    have hJ_s26 : jx_J s26 := xj_o (jr_enter hJ_s24) h_s26
    refine xw_iload2 dr_deliver_75 ?_
    refine xw_if_ne' dr_deliver_76 rfl (fun h27 => ?_) (fun h27 => ?_)
    · refine xw_aload0 dr_deliver_84 ?_
      refine xw_getR dr_deliver_85 fl_r_19 (xl_n hn (by decide)) rfl r_1_1 ?_
      refine xw_dup dr_deliver_88 rfl ?_
      refine xw_getI dr_deliver_89 fl_r_133 (by decide) (xl_n hn (by decide)) rfl ?_
      refine xw_aload0 dr_deliver_92 ?_
      refine xw_getR dr_deliver_93 fl_r_38 (xl_n hn (by decide)) rfl r_1_4 ?_
      refine xw_getI dr_deliver_96 fl_r_179 (by decide) (xl_n hn (by decide)) rfl ?_
      refine xw_bipush dr_deliver_99 kb_8 ?_
      refine xw_icmp_ne_mi (J := 111) (a := (-4 : Int32)) (b := (-3 : Int32)) dr_deliver_101 rfl (fun _ E' k' => ?_) (fun _ E' k' => ?_) ?_
      · refine xw_bipush dr_deliver_109 kb_m3 ?_
        exact k'
      · refine xw_bipush dr_deliver_104 kb_m4 ?_
        refine xw_goto dr_deliver_106 rfl ?_
        exact k'
      refine xw_iand dr_deliver_111 ?_
      refine xw_putI dr_deliver_112 fl_r_133 nf_3_5 (by decide) (xl_n hn (by decide)) rfl ?_
      refine xw_lw (fun s28 e_s28 => ?_)
      have hJ_s28 : jx_J s28 := by rw [e_s28]; exact (jx_u hJ_s26 (by decide))
      exact xw_vret dr_deliver_115 rfl
    · refine xw_aload0 dr_deliver_79 ?_
      refine xw_iload3 dr_deliver_80 ?_
      refine xw_cTu dr_deliver_81 (lk_r_deliver_81 (xl_n hn (by decide)) rfl) ok_r_pushWord (mr_pushWord hl hn hJ_s26) ⟨Nat.le_of_ble_eq_true rfl, Nat.le_of_ble_eq_true rfl⟩ rfl (fun b29 s30 h_s30 => ?_)
      have hJ_s30 : jx_J s30 := xj_o (jr_pushWord hJ_s26) h_s30
      refine xw_aload0 dr_deliver_84 ?_
      refine xw_getR dr_deliver_85 fl_r_19 (xl_n hn (by decide)) rfl r_1_1 ?_
      refine xw_dup dr_deliver_88 rfl ?_
      refine xw_getI dr_deliver_89 fl_r_133 (by decide) (xl_n hn (by decide)) rfl ?_
      refine xw_aload0 dr_deliver_92 ?_
      refine xw_getR dr_deliver_93 fl_r_38 (xl_n hn (by decide)) rfl r_1_4 ?_
      refine xw_getI dr_deliver_96 fl_r_179 (by decide) (xl_n hn (by decide)) rfl ?_
      refine xw_bipush dr_deliver_99 kb_8 ?_
      refine xw_icmp_ne_mi (J := 111) (a := (-4 : Int32)) (b := (-3 : Int32)) dr_deliver_101 rfl (fun _ E' k' => ?_) (fun _ E' k' => ?_) ?_
      · refine xw_bipush dr_deliver_109 kb_m3 ?_
        exact k'
      · refine xw_bipush dr_deliver_104 kb_m4 ?_
        refine xw_goto dr_deliver_106 rfl ?_
        exact k'
      refine xw_iand dr_deliver_111 ?_
      refine xw_putI dr_deliver_112 fl_r_133 nf_3_5 (by decide) (xl_n hn (by decide)) rfl ?_
      refine xw_lw (fun s31 e_s31 => ?_)
      have hJ_s31 : jx_J s31 := by rw [e_s31]; exact (jx_u hJ_s30 (by decide))
      exact xw_vret dr_deliver_115 rfl
theorem jr_deliver {a1 : Int32} {a2 : Int32} {a3 : Int32} {σ : xs_S} (hJ : jx_J σ) : jx_J (fr_deliver a1 a2 a3 σ).2 := by
  unfold fr_deliver
  refine xj_b (jr_readVectorGate hJ) (fun b1 s2 h_s2 hJ_s2 => ?_)
  refine xj_b (jr_findTarget hJ_s2) (fun b3 s4 h_s4 hJ_s4 => ?_)
  refine xj_f (fun h5 => ?_) (fun h5 => ?_)
  · refine xj_b (jr_pushWord hJ_s4) (fun b6 s7 h_s7 hJ_s7 => ?_)
    refine xj_b (jr_pushReturn hJ_s7) (fun b8 s9 h_s9 hJ_s9 => ?_)
    refine xj_b (jr_enter hJ_s9) (fun b10 s11 h_s11 hJ_s11 => ?_)
    refine xj_f (fun h12 => ?_) (fun h12 => ?_)
    · refine xj_b (jr_pushWord hJ_s11) (fun b14 s15 h_s15 hJ_s15 => ?_)
      refine xj_l (fun s16 e_s16 => ?_)
      have hJ_s16 : jx_J s16 := by rw [e_s16]; exact (jx_u hJ_s15 (by decide))
      exact hJ_s16
    · refine xj_l (fun s13 e_s13 => ?_)
      have hJ_s13 : jx_J s13 := by rw [e_s13]; exact (jx_u hJ_s11 (by decide))
      exact hJ_s13
  · refine xj_b (jr_findInnerStack hJ_s4) (fun b17 s18 h_s18 hJ_s18 => ?_)
    refine xj_b (jr_changeStack hJ_s18) (fun b19 s20 h_s20 hJ_s20 => ?_)
    refine xj_b (jr_pushWord hJ_s20) (fun b21 s22 h_s22 hJ_s22 => ?_)
    refine xj_b (jr_pushReturn hJ_s22) (fun b23 s24 h_s24 hJ_s24 => ?_)
    refine xj_b (jr_enter hJ_s24) (fun b25 s26 h_s26 hJ_s26 => ?_)
    refine xj_f (fun h27 => ?_) (fun h27 => ?_)
    · refine xj_b (jr_pushWord hJ_s26) (fun b29 s30 h_s30 hJ_s30 => ?_)
      refine xj_l (fun s31 e_s31 => ?_)
      have hJ_s31 : jx_J s31 := by rw [e_s31]; exact (jx_u hJ_s30 (by decide))
      exact hJ_s31
    · refine xj_l (fun s28 e_s28 => ?_)
      have hJ_s28 : jx_J s28 := by rw [e_s28]; exact (jx_u hJ_s26 (by decide))
      exact hJ_s28
def fr_settle (σ : xs_S) : Int32 × xs_S × Nat := xl_l ((σ 2 0)) (fun v1 => xl_l ((σ 2 1)) (fun v2 => xl_l ((((65536 : Int32) * v1) + v2)) (fun v3 => xl_l ((fg_copy_3_7 σ)) (fun s4 => xc_m (fr_deliver v1 (0 : Int32) v2 s4) (fun b5 s6 => xl_l ((xu_u s6 1 12 ((0 : Int32) &&& 1))) (fun s8 => (v3, s8, 0))) (fun s7 => xl_l ((fg_copy_3_7 s7)) (fun s9 => xc_m (fr_deliver (8 : Int32) (0 : Int32) (0 : Int32) s9) (fun b10 s11 => xl_l ((xu_u s11 1 12 ((0 : Int32) &&& 1))) (fun s13 => (v3, s13, 1))) (fun s12 => xl_l ((fg_copy_3_7 s12)) (fun s14 => xl_l ((xu_u s14 1 12 ((1 : Int32) &&& 1))) (fun s15 => (v3, s15, 2))))))))))
set_option maxRecDepth 100000 in
set_option maxHeartbeats 4000000 in
theorem mr_settle {l : Launch} {N n u : Nat} {σ : xs_S} (hl : l.stackTraces = false) (hn : 29 ≤ n) (hJ : jx_J σ) : xm_m (xk_k N) l tr_settle [.ref 1] (n, u, σ, xr_0) (xe_c n u (fr_settle σ)) := by
  refine xm_of hl ok_r_settle (Nat.le_of_ble_eq_true rfl) ?_
  show xw_w (xk_k N) l tr_settle 0 [some (.ref 1), none, none, none, none, none, none] [] (n, u, σ, xr_0) (xe_c n u (fr_settle σ))
  unfold fr_settle
  refine xw_aload0 dr_settle_0 ?_
  refine xw_getR dr_settle_1 fl_r_10 (xl_n hn (by decide)) rfl r_1_0 ?_
  refine xw_getI dr_settle_4 fl_r_188 (by decide) (xl_n hn (by decide)) rfl ?_
  refine xw_li (fun v1 e_v1 => ?_)
  refine xw_istore1 dr_settle_7 (Nat.le_of_ble_eq_true rfl) rfl ?_
  refine xw_aload0 dr_settle_8 ?_
  refine xw_getR dr_settle_9 fl_r_10 (xl_n hn (by decide)) rfl r_1_0 ?_
  refine xw_getI dr_settle_12 fl_r_191 (by decide) (xl_n hn (by decide)) rfl ?_
  refine xw_li (fun v2 e_v2 => ?_)
  refine xw_istore2 dr_settle_15 (Nat.le_of_ble_eq_true rfl) rfl ?_
  refine xw_ldc dr_settle_16 kc_r_194 ?_
  refine xw_iload1 dr_settle_18 ?_
  refine xw_imul dr_settle_19 ?_
  refine xw_iload2 dr_settle_20 ?_
  refine xw_iadd dr_settle_21 ?_
  refine xw_li (fun v3 e_v3 => ?_)
  refine xw_istore3 dr_settle_22 (Nat.le_of_ble_eq_true rfl) rfl ?_
  refine xw_iconst dr_settle_23 ki_0 ?_
  refine xw_istore4 dr_settle_24 (Nat.le_of_ble_eq_true rfl) rfl ?_
  refine xw_aload0 dr_settle_26 ?_
  refine xw_getR dr_settle_27 fl_r_19 (xl_n hn (by decide)) rfl r_1_1 ?_
  refine xw_aload0 dr_settle_30 ?_
  refine xw_getR dr_settle_31 fl_r_23 (xl_n hn (by decide)) rfl r_1_2 ?_
  refine xw_cW dr_settle_34 (lk_r_settle_34 (xl_n hn (by decide)) rfl) ok_g_copy (mg_copy_3_7 hl hn) ⟨Nat.le_of_ble_eq_true rfl, Nat.le_of_ble_eq_true rfl⟩ ?_
  refine xw_lw (fun s4 e_s4 => ?_)
  have hJ_s4 : jx_J s4 := by rw [e_s4]; exact (jg_copy_3_7 hJ)
  refine xw_iconst dr_settle_37 ki_0 ?_
  refine xw_istore5 dr_settle_38 (Nat.le_of_ble_eq_true rfl) rfl ?_
  refine xw_iload5 dr_settle_40 ?_
  refine xw_iconst dr_settle_42 ki_2 ?_
  refine xw_icmp_ge_f dr_settle_43 rfl (by decide) ?_
  refine xw_iload4 dr_settle_46 ?_
  refine xw_if_ne_f dr_settle_48 rfl (by decide) ?_
  refine xw_aload0 dr_settle_51 ?_
  refine xw_iload1 dr_settle_52 ?_
  refine xw_iconst dr_settle_53 ki_0 ?_
  refine xw_iload2 dr_settle_54 ?_
  refine xw_cC' (p0 := 51) (p1 := 61) (hp := 64) (ct := 95) dr_settle_55 (lk_r_settle_55 (xl_n hn (by decide)) rfl) ok_r_deliver (mr_deliver hl hn hJ_s4) ⟨Nat.le_of_ble_eq_true rfl, Nat.le_of_ble_eq_true rfl⟩ rfl (by decide) (by decide) xt_l xt_k (by rw [xk_e hn]; decide) (fun b5 s6 h_s6 => ?_) (fun s7 h_s7 => ?_)
  · have hJ_s6 : jx_J s6 := xj_o (jr_deliver hJ_s4) h_s6
    show xw_w _ _ _ _ _ [] _ _
    refine xw_iconst dr_settle_58 ki_1 ?_
    refine xw_istore4 dr_settle_59 (Nat.le_of_ble_eq_true rfl) rfl ?_
    refine xw_goto dr_settle_61 rfl ?_
    refine xw_iinc5 dr_settle_82 ic_0_1 (Nat.le_of_ble_eq_true rfl) rfl ?_
    refine xw_goto dr_settle_85 rfl ?_
    refine xw_iload5 dr_settle_40 ?_
    refine xw_iconst dr_settle_42 ki_2 ?_
    refine xw_icmp_ge_f dr_settle_43 rfl (by decide) ?_
    refine xw_iload4 dr_settle_46 ?_
    refine xw_if_ne_t dr_settle_48 rfl (by decide) ?_
    refine xw_aload0 dr_settle_88 ?_
    refine xw_iload4 dr_settle_89 ?_
    refine xw_if_ne_t dr_settle_91 rfl (by decide) ?_
    refine xw_iconst dr_settle_98 ki_0 ?_
    refine xw_putZ dr_settle_99 fl_r_63 nf_4_12 (by decide) (xl_n hn (by decide)) rfl ?_
    refine xw_lw (fun s8 e_s8 => ?_)
    have hJ_s8 : jx_J s8 := by rw [e_s8]; exact (jx_u hJ_s6 (by decide))
    refine xw_iload3 dr_settle_102 ?_
    exact xw_iret dr_settle_103 rfl
  · have hJ_s7 : jx_J s7 := xj_o (jr_deliver hJ_s4) h_s7
    have hn1 : 29 ≤ n + 1 := Nat.le_succ_of_le hn
    refine xw_astore6 dr_settle_64 (Nat.le_of_ble_eq_true rfl) rfl ?_
    refine xw_aload0 dr_settle_66 ?_
    refine xw_getR dr_settle_67 fl_r_19 (xl_n hn1 (by decide)) rfl r_1_1 ?_
    refine xw_aload0 dr_settle_70 ?_
    refine xw_getR dr_settle_71 fl_r_23 (xl_n hn1 (by decide)) rfl r_1_2 ?_
    refine xw_cW dr_settle_74 (lk_r_settle_74 (xl_n hn1 (by decide)) rfl) ok_g_copy (mg_copy_3_7 hl hn1) ⟨Nat.le_of_ble_eq_true rfl, Nat.le_of_ble_eq_true rfl⟩ ?_
    refine xw_lw (fun s9 e_s9 => ?_)
    have hJ_s9 : jx_J s9 := by rw [e_s9]; exact (jg_copy_3_7 hJ_s7)
    refine xw_bipush dr_settle_77 kb_8 ?_
    refine xw_istore1 dr_settle_79 (Nat.le_of_ble_eq_true rfl) rfl ?_
    refine xw_iconst dr_settle_80 ki_0 ?_
    refine xw_istore2 dr_settle_81 (Nat.le_of_ble_eq_true rfl) rfl ?_
    refine xw_iinc5 dr_settle_82 ic_0_1 (Nat.le_of_ble_eq_true rfl) rfl ?_
    refine xw_goto dr_settle_85 rfl ?_
    refine xw_iload5 dr_settle_40 ?_
    refine xw_iconst dr_settle_42 ki_2 ?_
    refine xw_icmp_ge_f dr_settle_43 rfl (by decide) ?_
    refine xw_iload4 dr_settle_46 ?_
    refine xw_if_ne_f dr_settle_48 rfl (by decide) ?_
    refine xw_aload0 dr_settle_51 ?_
    refine xw_iload1 dr_settle_52 ?_
    refine xw_iconst dr_settle_53 ki_0 ?_
    refine xw_iload2 dr_settle_54 ?_
    refine xw_cC' (p0 := 51) (p1 := 61) (hp := 64) (ct := 95) dr_settle_55 (lk_r_settle_55 (xl_n hn1 (by decide)) rfl) ok_r_deliver (mr_deliver hl hn1 hJ_s9) ⟨Nat.le_of_ble_eq_true rfl, Nat.le_of_ble_eq_true rfl⟩ rfl (by decide) (by decide) xt_l xt_k (by rw [xk_e hn1]; decide) (fun b10 s11 h_s11 => ?_) (fun s12 h_s12 => ?_)
    · have hJ_s11 : jx_J s11 := xj_o (jr_deliver hJ_s9) h_s11
      show xw_w _ _ _ _ _ [] _ _
      refine xw_iconst dr_settle_58 ki_1 ?_
      refine xw_istore4 dr_settle_59 (Nat.le_of_ble_eq_true rfl) rfl ?_
      refine xw_goto dr_settle_61 rfl ?_
      refine xw_iinc5 dr_settle_82 ic_1_1 (Nat.le_of_ble_eq_true rfl) rfl ?_
      refine xw_goto dr_settle_85 rfl ?_
      refine xw_iload5 dr_settle_40 ?_
      refine xw_iconst dr_settle_42 ki_2 ?_
      refine xw_icmp_ge_t dr_settle_43 rfl (by decide) ?_
      refine xw_aload0 dr_settle_88 ?_
      refine xw_iload4 dr_settle_89 ?_
      refine xw_if_ne_t dr_settle_91 rfl (by decide) ?_
      refine xw_iconst dr_settle_98 ki_0 ?_
      refine xw_putZ dr_settle_99 fl_r_63 nf_4_12 (by decide) (xl_n hn1 (by decide)) rfl ?_
      refine xw_lw (fun s13 e_s13 => ?_)
      have hJ_s13 : jx_J s13 := by rw [e_s13]; exact (jx_u hJ_s11 (by decide))
      refine xw_iload3 dr_settle_102 ?_
      exact xw_iret dr_settle_103 rfl
    · have hJ_s12 : jx_J s12 := xj_o (jr_deliver hJ_s9) h_s12
      have hn2 : 29 ≤ (n + 1) + 1 := Nat.le_succ_of_le hn1
      refine xw_astore6 dr_settle_64 (Nat.le_of_ble_eq_true rfl) rfl ?_
      refine xw_aload0 dr_settle_66 ?_
      refine xw_getR dr_settle_67 fl_r_19 (xl_n hn2 (by decide)) rfl r_1_1 ?_
      refine xw_aload0 dr_settle_70 ?_
      refine xw_getR dr_settle_71 fl_r_23 (xl_n hn2 (by decide)) rfl r_1_2 ?_
      refine xw_cW dr_settle_74 (lk_r_settle_74 (xl_n hn2 (by decide)) rfl) ok_g_copy (mg_copy_3_7 hl hn2) ⟨Nat.le_of_ble_eq_true rfl, Nat.le_of_ble_eq_true rfl⟩ ?_
      refine xw_lw (fun s14 e_s14 => ?_)
      have hJ_s14 : jx_J s14 := by rw [e_s14]; exact (jg_copy_3_7 hJ_s12)
      refine xw_bipush dr_settle_77 kb_8 ?_
      refine xw_istore1 dr_settle_79 (Nat.le_of_ble_eq_true rfl) rfl ?_
      refine xw_iconst dr_settle_80 ki_0 ?_
      refine xw_istore2 dr_settle_81 (Nat.le_of_ble_eq_true rfl) rfl ?_
      refine xw_iinc5 dr_settle_82 ic_1_1 (Nat.le_of_ble_eq_true rfl) rfl ?_
      refine xw_goto dr_settle_85 rfl ?_
      refine xw_iload5 dr_settle_40 ?_
      refine xw_iconst dr_settle_42 ki_2 ?_
      refine xw_icmp_ge_t dr_settle_43 rfl (by decide) ?_
      refine xw_aload0 dr_settle_88 ?_
      refine xw_iload4 dr_settle_89 ?_
      refine xw_if_ne_f dr_settle_91 rfl (by decide) ?_
      refine xw_iconst dr_settle_94 ki_1 ?_
      refine xw_goto dr_settle_95 rfl ?_
      refine xw_putZ dr_settle_99 fl_r_63 nf_4_12 (by decide) (xl_n hn2 (by decide)) rfl ?_
      refine xw_lw (fun s15 e_s15 => ?_)
      have hJ_s15 : jx_J s15 := by rw [e_s15]; exact (jx_u hJ_s14 (by decide))
      refine xw_iload3 dr_settle_102 ?_
      exact xw_iret dr_settle_103 rfl
theorem jr_settle {σ : xs_S} (hJ : jx_J σ) : jx_J (fr_settle σ).2.1 := by
  unfold fr_settle
  refine xk_l (fun v1 e_v1 => ?_)
  refine xk_l (fun v2 e_v2 => ?_)
  refine xk_l (fun v3 e_v3 => ?_)
  refine xk_l (fun s4 e_s4 => ?_)
  have hJ_s4 : jx_J s4 := by rw [e_s4]; exact (jg_copy_3_7 hJ)
  refine xk_m (jr_deliver hJ_s4) (fun b5 s6 h_s6 hJ_s6 => ?_) (fun s7 h_s7 hJ_s7 => ?_)
  · refine xk_l (fun s8 e_s8 => ?_)
    have hJ_s8 : jx_J s8 := by rw [e_s8]; exact (jx_u hJ_s6 (by decide))
    exact hJ_s8
  · refine xk_l (fun s9 e_s9 => ?_)
    have hJ_s9 : jx_J s9 := by rw [e_s9]; exact (jg_copy_3_7 hJ_s7)
    refine xk_m (jr_deliver hJ_s9) (fun b10 s11 h_s11 hJ_s11 => ?_) (fun s12 h_s12 hJ_s12 => ?_)
    · refine xk_l (fun s13 e_s13 => ?_)
      have hJ_s13 : jx_J s13 := by rw [e_s13]; exact (jx_u hJ_s11 (by decide))
      exact hJ_s13
    · refine xk_l (fun s14 e_s14 => ?_)
      have hJ_s14 : jx_J s14 := by rw [e_s14]; exact (jg_copy_3_7 hJ_s12)
      refine xk_l (fun s15 e_s15 => ?_)
      have hJ_s15 : jx_J s15 := by rw [e_s15]; exact (jx_u hJ_s14 (by decide))
      exact hJ_s15
def fr_advance (σ : xs_S) : Int32 × xs_S := xl_l ((xu_u σ 3 4 (fr_next σ))) (fun s1 => ((0 : Int32), s1))
set_option maxRecDepth 100000 in
set_option maxHeartbeats 4000000 in
theorem mr_advance {l : Launch} {N n u : Nat} {σ : xs_S} (hl : l.stackTraces = false) (hn : 29 ≤ n) : xm_m (xk_k N) l tr_advance [.ref 1] (n, u, σ, xr_0) (xe_p ei_i n u (fr_advance σ)) := by
  refine xm_of hl ok_r_advance (Nat.le_of_ble_eq_true rfl) ?_
  show xw_w (xk_k N) l tr_advance 0 [some (.ref 1)] [] (n, u, σ, xr_0) (xe_p ei_i n u (fr_advance σ))
  unfold fr_advance
  refine xw_aload0 dr_advance_0 ?_
  refine xw_getR dr_advance_1 fl_r_19 (xl_n hn (by decide)) rfl r_1_1 ?_
  refine xw_aload0 dr_advance_4 ?_
  refine xw_cVi dr_advance_5 (lk_r_advance_5 (xl_n hn (by decide)) rfl) ok_r_next (mr_next hl hn) ⟨Nat.le_of_ble_eq_true rfl, Nat.le_of_ble_eq_true rfl⟩ ?_
  refine xw_putI dr_advance_8 fl_r_154 nf_3_4 (by decide) (xl_n hn (by decide)) rfl ?_
  refine xw_lw (fun s1 e_s1 => ?_)
  refine xw_iconst dr_advance_11 ki_0 ?_
  exact xw_iret dr_advance_12 rfl
theorem jr_advance {σ : xs_S} (hJ : jx_J σ) : jx_J (fr_advance σ).2 := by
  unfold fr_advance
  refine xj_l (fun s1 e_s1 => ?_)
  have hJ_s1 : jx_J s1 := by rw [e_s1]; exact (jx_u hJ (by decide))
  exact hJ_s1
def fr_load (a1 : Int32) (a2 : Int32) (σ : xs_S) : Int32 × xs_S × Nat := (if (σ 1 12) = 0 then (if a1 = (1 : Int32) then xl_l ((fg_copy_7_3 σ)) (fun s3 => xc_m (fr_loadStack (a2 &&& (65535 : Int32)) s3) (fun b4 s5 => xl_l (fr_advance s5) (fun r7 => (r7.1, r7.2, 0))) (fun s6 => xl_l (fr_settle s6) (fun r => (r.1, r.2.1, r.2.2 + 1)))) else (if a1 = (2 : Int32) then xl_l ((fg_copy_7_3 σ)) (fun s9 => xc_m (fr_loadData (a2 &&& (65535 : Int32)) s9) (fun b10 s11 => xl_l (fr_advance s11) (fun r13 => (r13.1, r13.2, 0))) (fun s12 => xl_l (fr_settle s12) (fun r => (r.1, r.2.1, r.2.2 + 1)))) else ((-2 : Int32), σ, 0))) else ((-1 : Int32), σ, 0))
set_option maxRecDepth 100000 in
set_option maxHeartbeats 4000000 in
theorem mr_load {l : Launch} {N n u : Nat} {a1 : Int32} {a2 : Int32} {σ : xs_S} (hl : l.stackTraces = false) (hn : 29 ≤ n) (hJ : jx_J σ) : xm_m (xk_k N) l tr_load [.ref 1, .int a1, .int a2] (n, u, σ, xr_0) (xe_c n u (fr_load a1 a2 σ)) := by
  refine xm_of hl ok_r_load (Nat.le_of_ble_eq_true rfl) ?_
  show xw_w (xk_k N) l tr_load 0 [some (.ref 1), some (.int a1), some (.int a2), none] [] (n, u, σ, xr_0) (xe_c n u (fr_load a1 a2 σ))
  unfold fr_load
  refine xw_aload0 dr_load_0 ?_
  refine xw_getI dr_load_1 fl_r_63 (by decide) (xl_n hn (by decide)) rfl ?_
  refine xw_if_eq' dr_load_4 rfl (fun h1 => ?_) (fun h1 => ?_)
  · refine xw_iload1 dr_load_9 ?_
    refine xw_iconst dr_load_10 ki_1 ?_
    refine xw_icmp_eq' dr_load_11 rfl (fun h2 => ?_) (fun h2 => ?_)
    · refine xw_aload0 dr_load_22 ?_
      refine xw_getR dr_load_23 fl_r_23 (xl_n hn (by decide)) rfl r_1_2 ?_
      refine xw_aload0 dr_load_26 ?_
      refine xw_getR dr_load_27 fl_r_19 (xl_n hn (by decide)) rfl r_1_1 ?_
      refine xw_cW dr_load_30 (lk_r_load_30 (xl_n hn (by decide)) rfl) ok_g_copy (mg_copy_7_3 hl hn) ⟨Nat.le_of_ble_eq_true rfl, Nat.le_of_ble_eq_true rfl⟩ ?_
      refine xw_lw (fun s3 e_s3 => ?_)
      have hJ_s3 : jx_J s3 := by rw [e_s3]; exact (jg_copy_7_3 hJ)
      refine xw_iload1 dr_load_33 ?_
      refine xw_iconst dr_load_34 ki_1 ?_
      refine xw_icmp_ne_f dr_load_35 rfl h2 ?_
      refine xw_aload0 dr_load_38 ?_
      refine xw_iload2 dr_load_39 ?_
      refine xw_ldc dr_load_40 kc_r_87 ?_
      refine xw_iand dr_load_42 ?_
      refine xw_cC' (p0 := 33) (p1 := 57) (hp := 60) (ct := 95) dr_load_43 (lk_r_load_43 (xl_n hn (by decide)) rfl) ok_r_loadStack (mr_loadStack hl hn hJ_s3) ⟨Nat.le_of_ble_eq_true rfl, Nat.le_of_ble_eq_true rfl⟩ rfl (by decide) (by decide) xt_l xt_k (by rw [xk_e hn]; decide) (fun b4 s5 h_s5 => ?_) (fun s6 h_s6 => ?_)
      · have hJ_s5 : jx_J s5 := xj_o (jr_loadStack hJ_s3) h_s5
        show xw_w _ _ _ _ _ [] _ _
        refine xw_goto dr_load_46 rfl ?_
        refine xw_goto dr_load_57 rfl ?_
        refine xw_aload0 dr_load_66 ?_
        refine xw_cPi dr_load_67 (lk_r_load_67 (xl_n hn (by decide)) rfl) ok_r_advance (mr_advance hl hn) ⟨Nat.le_of_ble_eq_true rfl, Nat.le_of_ble_eq_true rfl⟩ ?_
        refine xw_lpi (fun r7 e_r7 => ?_)
        have hJ_r7 : jx_J r7.2 := by rw [e_r7]; exact (jr_advance hJ_s5)
        exact xw_iret dr_load_70 rfl
      · have hJ_s6 : jx_J s6 := xj_o (jr_loadStack hJ_s3) h_s6
        have hn1 : 29 ≤ n + 1 := Nat.le_succ_of_le hn
        refine xw_astore3 dr_load_60 (Nat.le_of_ble_eq_true rfl) rfl ?_
        refine xw_aload0 dr_load_61 ?_
        refine xw_e xc_e ?_
        refine xw_c0 dr_load_62 (lk_r_load_62 (xl_n hn1 (by decide)) rfl) ok_r_settle (mr_settle hl hn1 hJ_s6) ⟨Nat.le_of_ble_eq_true rfl, Nat.le_of_ble_eq_true rfl⟩ ?_
        exact xw_iret dr_load_65 rfl
    · refine xw_iload1 dr_load_14 ?_
      refine xw_iconst dr_load_15 ki_2 ?_
      refine xw_icmp_eq' dr_load_16 rfl (fun h8 => ?_) (fun h8 => ?_)
      · refine xw_aload0 dr_load_22 ?_
        refine xw_getR dr_load_23 fl_r_23 (xl_n hn (by decide)) rfl r_1_2 ?_
        refine xw_aload0 dr_load_26 ?_
        refine xw_getR dr_load_27 fl_r_19 (xl_n hn (by decide)) rfl r_1_1 ?_
        refine xw_cW dr_load_30 (lk_r_load_30 (xl_n hn (by decide)) rfl) ok_g_copy (mg_copy_7_3 hl hn) ⟨Nat.le_of_ble_eq_true rfl, Nat.le_of_ble_eq_true rfl⟩ ?_
        refine xw_lw (fun s9 e_s9 => ?_)
        have hJ_s9 : jx_J s9 := by rw [e_s9]; exact (jg_copy_7_3 hJ)
        refine xw_iload1 dr_load_33 ?_
        refine xw_iconst dr_load_34 ki_1 ?_
        refine xw_icmp_ne_t dr_load_35 rfl h2 ?_
        refine xw_aload0 dr_load_49 ?_
        refine xw_iload2 dr_load_50 ?_
        refine xw_ldc dr_load_51 kc_r_87 ?_
        refine xw_iand dr_load_53 ?_
        refine xw_cC' (p0 := 33) (p1 := 57) (hp := 60) (ct := 95) dr_load_54 (lk_r_load_54 (xl_n hn (by decide)) rfl) ok_r_loadData (mr_loadData hl hn hJ_s9) ⟨Nat.le_of_ble_eq_true rfl, Nat.le_of_ble_eq_true rfl⟩ rfl (by decide) (by decide) xt_l xt_k (by rw [xk_e hn]; decide) (fun b10 s11 h_s11 => ?_) (fun s12 h_s12 => ?_)
        · have hJ_s11 : jx_J s11 := xj_o (jr_loadData hJ_s9) h_s11
          show xw_w _ _ _ _ _ [] _ _
          refine xw_goto dr_load_57 rfl ?_
          refine xw_aload0 dr_load_66 ?_
          refine xw_cPi dr_load_67 (lk_r_load_67 (xl_n hn (by decide)) rfl) ok_r_advance (mr_advance hl hn) ⟨Nat.le_of_ble_eq_true rfl, Nat.le_of_ble_eq_true rfl⟩ ?_
          refine xw_lpi (fun r13 e_r13 => ?_)
          have hJ_r13 : jx_J r13.2 := by rw [e_r13]; exact (jr_advance hJ_s11)
          exact xw_iret dr_load_70 rfl
        · have hJ_s12 : jx_J s12 := xj_o (jr_loadData hJ_s9) h_s12
          have hn1 : 29 ≤ n + 1 := Nat.le_succ_of_le hn
          refine xw_astore3 dr_load_60 (Nat.le_of_ble_eq_true rfl) rfl ?_
          refine xw_aload0 dr_load_61 ?_
          refine xw_e xc_e ?_
          refine xw_c0 dr_load_62 (lk_r_load_62 (xl_n hn1 (by decide)) rfl) ok_r_settle (mr_settle hl hn1 hJ_s12) ⟨Nat.le_of_ble_eq_true rfl, Nat.le_of_ble_eq_true rfl⟩ ?_
          exact xw_iret dr_load_65 rfl
      · refine xw_bipush dr_load_19 kb_m2 ?_
        exact xw_iret dr_load_21 rfl
  · refine xw_iconst dr_load_7 ki_m1 ?_
    exact xw_iret dr_load_8 rfl
theorem jr_load {a1 : Int32} {a2 : Int32} {σ : xs_S} (hJ : jx_J σ) : jx_J (fr_load a1 a2 σ).2.1 := by
  unfold fr_load
  refine xk_f (fun h1 => ?_) (fun h1 => ?_)
  · refine xk_f (fun h2 => ?_) (fun h2 => ?_)
    · refine xk_l (fun s3 e_s3 => ?_)
      have hJ_s3 : jx_J s3 := by rw [e_s3]; exact (jg_copy_7_3 hJ)
      refine xk_m (jr_loadStack hJ_s3) (fun b4 s5 h_s5 hJ_s5 => ?_) (fun s6 h_s6 hJ_s6 => ?_)
      · refine xk_l (fun r7 e_r7 => ?_)
        have hJ_r7 : jx_J r7.2 := by rw [e_r7]; exact (jr_advance hJ_s5)
        exact hJ_r7
      · exact jr_settle hJ_s6
    · refine xk_f (fun h8 => ?_) (fun h8 => ?_)
      · refine xk_l (fun s9 e_s9 => ?_)
        have hJ_s9 : jx_J s9 := by rw [e_s9]; exact (jg_copy_7_3 hJ)
        refine xk_m (jr_loadData hJ_s9) (fun b10 s11 h_s11 hJ_s11 => ?_) (fun s12 h_s12 hJ_s12 => ?_)
        · refine xk_l (fun r13 e_r13 => ?_)
          have hJ_r13 : jx_J r13.2 := by rw [e_r13]; exact (jr_advance hJ_s11)
          exact hJ_r13
        · exact jr_settle hJ_s12
      · exact hJ
  · exact hJ
def fr_read (a1 : Int32) (a2 : Int32) (σ : xs_S) : Int32 × xs_S × Nat := (if (σ 1 12) = 0 then (if a1 < 0 then ((-2 : Int32), σ, 0) else (if a1 ≤ (2 : Int32) then xl_l ((fg_copy_7_3 σ)) (fun s4 => xc_m (fr_wordIn a1 (a2 &&& (65535 : Int32)) s4) (fun b5 s6 => xl_l ((xu_u s6 3 10 b5)) (fun s8 => xl_l (fr_advance s8) (fun r9 => (r9.1, r9.2, 0)))) (fun s7 => xl_l (fr_settle s7) (fun r => (r.1, r.2.1, r.2.2 + 1)))) else ((-2 : Int32), σ, 0))) else ((-1 : Int32), σ, 0))
set_option maxRecDepth 100000 in
set_option maxHeartbeats 4000000 in
theorem mr_read {l : Launch} {N n u : Nat} {a1 : Int32} {a2 : Int32} {σ : xs_S} (hl : l.stackTraces = false) (hn : 29 ≤ n) (hJ : jx_J σ) : xm_m (xk_k N) l tr_read [.ref 1, .int a1, .int a2] (n, u, σ, xr_0) (xe_c n u (fr_read a1 a2 σ)) := by
  refine xm_of hl ok_r_read (Nat.le_of_ble_eq_true rfl) ?_
  show xw_w (xk_k N) l tr_read 0 [some (.ref 1), some (.int a1), some (.int a2), none] [] (n, u, σ, xr_0) (xe_c n u (fr_read a1 a2 σ))
  unfold fr_read
  refine xw_aload0 dr_read_0 ?_
  refine xw_getI dr_read_1 fl_r_63 (by decide) (xl_n hn (by decide)) rfl ?_
  refine xw_if_eq' dr_read_4 rfl (fun h1 => ?_) (fun h1 => ?_)
  · refine xw_iload1 dr_read_9 ?_
    refine xw_if_lt' dr_read_10 rfl (fun h2 => ?_) (fun h2 => ?_)
    · refine xw_bipush dr_read_18 kb_m2 ?_
      exact xw_iret dr_read_20 rfl
    · refine xw_iload1 dr_read_13 ?_
      refine xw_iconst dr_read_14 ki_2 ?_
      refine xw_icmp_le' dr_read_15 rfl (fun h3 => ?_) (fun h3 => ?_)
      · refine xw_aload0 dr_read_21 ?_
        refine xw_getR dr_read_22 fl_r_23 (xl_n hn (by decide)) rfl r_1_2 ?_
        refine xw_aload0 dr_read_25 ?_
        refine xw_getR dr_read_26 fl_r_19 (xl_n hn (by decide)) rfl r_1_1 ?_
        refine xw_cW dr_read_29 (lk_r_read_29 (xl_n hn (by decide)) rfl) ok_g_copy (mg_copy_7_3 hl hn) ⟨Nat.le_of_ble_eq_true rfl, Nat.le_of_ble_eq_true rfl⟩ ?_
        refine xw_lw (fun s4 e_s4 => ?_)
        have hJ_s4 : jx_J s4 := by rw [e_s4]; exact (jg_copy_7_3 hJ)
        refine xw_aload0 dr_read_32 ?_
        refine xw_getR dr_read_33 fl_r_19 (xl_n hn (by decide)) rfl r_1_1 ?_
        refine xw_aload0 dr_read_36 ?_
        refine xw_iload1 dr_read_37 ?_
        refine xw_iload2 dr_read_38 ?_
        refine xw_ldc dr_read_39 kc_r_87 ?_
        refine xw_iand dr_read_41 ?_
        refine xw_cC' (p0 := 32) (p1 := 48) (hp := 51) (ct := 95) dr_read_42 (lk_r_read_42 (xl_n hn (by decide)) rfl) ok_r_wordIn (mr_wordIn hl hn hJ_s4) ⟨Nat.le_of_ble_eq_true rfl, Nat.le_of_ble_eq_true rfl⟩ rfl (by decide) (by decide) xt_l xt_k (by rw [xk_e hn]; decide) (fun b5 s6 h_s6 => ?_) (fun s7 h_s7 => ?_)
        · have hJ_s6 : jx_J s6 := xj_o (jr_wordIn hJ_s4) h_s6
          show xw_w _ _ _ _ _ (.int (b5) :: .ref (3) :: []) _ _
          refine xw_putI dr_read_45 fl_r_108 nf_3_10 (by decide) (xl_n hn (by decide)) rfl ?_
          refine xw_lw (fun s8 e_s8 => ?_)
          have hJ_s8 : jx_J s8 := by rw [e_s8]; exact (jx_u hJ_s6 (by decide))
          refine xw_goto dr_read_48 rfl ?_
          refine xw_aload0 dr_read_57 ?_
          refine xw_cPi dr_read_58 (lk_r_read_58 (xl_n hn (by decide)) rfl) ok_r_advance (mr_advance hl hn) ⟨Nat.le_of_ble_eq_true rfl, Nat.le_of_ble_eq_true rfl⟩ ?_
          refine xw_lpi (fun r9 e_r9 => ?_)
          have hJ_r9 : jx_J r9.2 := by rw [e_r9]; exact (jr_advance hJ_s8)
          exact xw_iret dr_read_61 rfl
        · have hJ_s7 : jx_J s7 := xj_o (jr_wordIn hJ_s4) h_s7
          have hn1 : 29 ≤ n + 1 := Nat.le_succ_of_le hn
          refine xw_astore3 dr_read_51 (Nat.le_of_ble_eq_true rfl) rfl ?_
          refine xw_aload0 dr_read_52 ?_
          refine xw_e xc_e ?_
          refine xw_c0 dr_read_53 (lk_r_read_53 (xl_n hn1 (by decide)) rfl) ok_r_settle (mr_settle hl hn1 hJ_s7) ⟨Nat.le_of_ble_eq_true rfl, Nat.le_of_ble_eq_true rfl⟩ ?_
          exact xw_iret dr_read_56 rfl
      · refine xw_bipush dr_read_18 kb_m2 ?_
        exact xw_iret dr_read_20 rfl
  · refine xw_iconst dr_read_7 ki_m1 ?_
    exact xw_iret dr_read_8 rfl
theorem jr_read {a1 : Int32} {a2 : Int32} {σ : xs_S} (hJ : jx_J σ) : jx_J (fr_read a1 a2 σ).2.1 := by
  unfold fr_read
  refine xk_f (fun h1 => ?_) (fun h1 => ?_)
  · refine xk_f (fun h2 => ?_) (fun h2 => ?_)
    · exact hJ
    · refine xk_f (fun h3 => ?_) (fun h3 => ?_)
      · refine xk_l (fun s4 e_s4 => ?_)
        have hJ_s4 : jx_J s4 := by rw [e_s4]; exact (jg_copy_7_3 hJ)
        refine xk_m (jr_wordIn hJ_s4) (fun b5 s6 h_s6 hJ_s6 => ?_) (fun s7 h_s7 hJ_s7 => ?_)
        · refine xk_l (fun s8 e_s8 => ?_)
          have hJ_s8 : jx_J s8 := by rw [e_s8]; exact (jx_u hJ_s6 (by decide))
          refine xk_l (fun r9 e_r9 => ?_)
          have hJ_r9 : jx_J r9.2 := by rw [e_r9]; exact (jr_advance hJ_s8)
          exact hJ_r9
        · exact jr_settle hJ_s7
      · exact hJ
  · exact hJ
def fr_setWordIn (a1 : Int32) (a2 : Int32) (a3 : Int32) (σ : xs_S) : xp_P Unit := xp_b (fr_checkAccess a1 a2 σ) (fun b1 s2 => xp_b (fx_refuse (if (s2 (fg_held a1 s2) 3) = (4 : Int32) then (0 : Int32) else (1 : Int32)) (13 : Int32) (0 : Int32) s2) (fun b3 s4 => xp_b (fm_setWord ((s4 (fg_held a1 s4) 1) + a2) a3 (s4 3 6) s4) (fun b5 s6 => (some (), s6))))
set_option maxRecDepth 100000 in
set_option maxHeartbeats 4000000 in
theorem mr_setWordIn {l : Launch} {N n u : Nat} {a1 : Int32} {a2 : Int32} {a3 : Int32} {σ : xs_S} (hl : l.stackTraces = false) (hn : 29 ≤ n) (hJ : jx_J σ) : xm_m (xk_k N) l tr_setWordIn [.ref 1, .int a1, .int a2, .int a3] (n, u, σ, xr_0) (xe_t eu_u n u (fr_setWordIn a1 a2 a3 σ)) := by
  refine xm_of hl ok_r_setWordIn (Nat.le_of_ble_eq_true rfl) ?_
  show xw_w (xk_k N) l tr_setWordIn 0 [some (.ref 1), some (.int a1), some (.int a2), some (.int a3)] [] (n, u, σ, xr_0) (xe_t eu_u n u (fr_setWordIn a1 a2 a3 σ))
  unfold fr_setWordIn
  refine xw_aload0 dr_setWordIn_0 ?_
  refine xw_iload1 dr_setWordIn_1 ?_
  refine xw_iload2 dr_setWordIn_2 ?_
  refine xw_cTu dr_setWordIn_3 (lk_r_setWordIn_3 (xl_n hn (by decide)) rfl) ok_r_checkAccess (mr_checkAccess hl hn hJ) ⟨Nat.le_of_ble_eq_true rfl, Nat.le_of_ble_eq_true rfl⟩ rfl (fun b1 s2 h_s2 => ?_)
  have hJ_s2 : jx_J s2 := xj_o (jr_checkAccess hJ) h_s2
  refine xw_aload0 dr_setWordIn_6 ?_
  refine xw_getR dr_setWordIn_7 fl_r_10 (xl_n hn (by decide)) rfl r_1_0 ?_
  refine xw_aload0 dr_setWordIn_10 ?_
  refine xw_getR dr_setWordIn_11 fl_r_19 (xl_n hn (by decide)) rfl r_1_1 ?_
  refine xw_iload1 dr_setWordIn_14 ?_
  refine xw_cVr dr_setWordIn_15 (lk_r_setWordIn_15 (xl_n hn (by decide)) rfl) ok_g_held (mg_held hl hn) ⟨Nat.le_of_ble_eq_true rfl, Nat.le_of_ble_eq_true rfl⟩ ?_
  refine xw_getI dr_setWordIn_18 fl_r_179 (by decide) (xl_n hn he_i) he_k ?_
  refine xw_iconst dr_setWordIn_21 ki_4 ?_
  refine xw_icmp_eq_mi (J := 30) (a := (0 : Int32)) (b := (1 : Int32)) dr_setWordIn_22 rfl (fun _ E' k' => ?_) (fun _ E' k' => ?_) ?_
  · refine xw_iconst dr_setWordIn_29 ki_0 ?_
    exact k'
  · refine xw_iconst dr_setWordIn_25 ki_1 ?_
    refine xw_goto dr_setWordIn_26 rfl ?_
    exact k'
  refine xw_bipush dr_setWordIn_30 kb_13 ?_
  refine xw_iconst dr_setWordIn_32 ki_0 ?_
  refine xw_cTu dr_setWordIn_33 (lk_r_setWordIn_33 (xl_n hn (by decide)) rfl) ok_x_refuse (mx_refuse hl hn) ⟨Nat.le_of_ble_eq_true rfl, Nat.le_of_ble_eq_true rfl⟩ rfl (fun b3 s4 h_s4 => ?_)
  have hJ_s4 : jx_J s4 := xj_o (jx_refuse hJ_s2) h_s4
  refine xw_aload0 dr_setWordIn_36 ?_
  refine xw_getR dr_setWordIn_37 fl_r_31 (xl_n hn (by decide)) rfl r_1_3 ?_
  refine xw_aload0 dr_setWordIn_40 ?_
  refine xw_getR dr_setWordIn_41 fl_r_19 (xl_n hn (by decide)) rfl r_1_1 ?_
  refine xw_iload1 dr_setWordIn_44 ?_
  refine xw_cVr dr_setWordIn_45 (lk_r_setWordIn_45 (xl_n hn (by decide)) rfl) ok_g_held (mg_held hl hn) ⟨Nat.le_of_ble_eq_true rfl, Nat.le_of_ble_eq_true rfl⟩ ?_
  refine xw_getI dr_setWordIn_48 fl_r_173 (by decide) (xl_n hn he_i) he_k ?_
  refine xw_iload2 dr_setWordIn_51 ?_
  refine xw_iadd dr_setWordIn_52 ?_
  refine xw_iload3 dr_setWordIn_53 ?_
  refine xw_aload0 dr_setWordIn_54 ?_
  refine xw_getR dr_setWordIn_55 fl_r_19 (xl_n hn (by decide)) rfl r_1_1 ?_
  refine xw_getI dr_setWordIn_58 fl_r_157 (by decide) (xl_n hn (by decide)) rfl ?_
  refine xw_cTu dr_setWordIn_61 (lk_r_setWordIn_61 (xl_n hn (by decide)) rfl) ok_m_setWord (mm_setWord hl hn hJ_s4) ⟨Nat.le_of_ble_eq_true rfl, Nat.le_of_ble_eq_true rfl⟩ rfl (fun b5 s6 h_s6 => ?_)
  have hJ_s6 : jx_J s6 := xj_o (jm_setWord hJ_s4) h_s6
  exact xw_vret dr_setWordIn_64 rfl
theorem jr_setWordIn {a1 : Int32} {a2 : Int32} {a3 : Int32} {σ : xs_S} (hJ : jx_J σ) : jx_J (fr_setWordIn a1 a2 a3 σ).2 := by
  unfold fr_setWordIn
  refine xj_b (jr_checkAccess hJ) (fun b1 s2 h_s2 hJ_s2 => ?_)
  refine xj_b (jx_refuse hJ_s2) (fun b3 s4 h_s4 hJ_s4 => ?_)
  refine xj_b (jm_setWord hJ_s4) (fun b5 s6 h_s6 hJ_s6 => ?_)
  exact hJ_s6
def fr_write (a1 : Int32) (a2 : Int32) (a3 : Int32) (σ : xs_S) : Int32 × xs_S × Nat := (if (σ 1 12) = 0 then (if a1 < 0 then ((-2 : Int32), σ, 0) else (if a1 ≤ (2 : Int32) then xl_l ((fg_copy_7_3 σ)) (fun s4 => xc_m (fr_setWordIn a1 (a2 &&& (65535 : Int32)) (a3 &&& (65535 : Int32)) s4) (fun b5 s6 => xl_l (fr_advance s6) (fun r8 => (r8.1, r8.2, 0))) (fun s7 => xl_l (fr_settle s7) (fun r => (r.1, r.2.1, r.2.2 + 1)))) else ((-2 : Int32), σ, 0))) else ((-1 : Int32), σ, 0))
set_option maxRecDepth 100000 in
set_option maxHeartbeats 4000000 in
theorem mr_write {l : Launch} {N n u : Nat} {a1 : Int32} {a2 : Int32} {a3 : Int32} {σ : xs_S} (hl : l.stackTraces = false) (hn : 29 ≤ n) (hJ : jx_J σ) : xm_m (xk_k N) l tr_write [.ref 1, .int a1, .int a2, .int a3] (n, u, σ, xr_0) (xe_c n u (fr_write a1 a2 a3 σ)) := by
  refine xm_of hl ok_r_write (Nat.le_of_ble_eq_true rfl) ?_
  show xw_w (xk_k N) l tr_write 0 [some (.ref 1), some (.int a1), some (.int a2), some (.int a3), none] [] (n, u, σ, xr_0) (xe_c n u (fr_write a1 a2 a3 σ))
  unfold fr_write
  refine xw_aload0 dr_write_0 ?_
  refine xw_getI dr_write_1 fl_r_63 (by decide) (xl_n hn (by decide)) rfl ?_
  refine xw_if_eq' dr_write_4 rfl (fun h1 => ?_) (fun h1 => ?_)
  · refine xw_iload1 dr_write_9 ?_
    refine xw_if_lt' dr_write_10 rfl (fun h2 => ?_) (fun h2 => ?_)
    · refine xw_bipush dr_write_18 kb_m2 ?_
      exact xw_iret dr_write_20 rfl
    · refine xw_iload1 dr_write_13 ?_
      refine xw_iconst dr_write_14 ki_2 ?_
      refine xw_icmp_le' dr_write_15 rfl (fun h3 => ?_) (fun h3 => ?_)
      · refine xw_aload0 dr_write_21 ?_
        refine xw_getR dr_write_22 fl_r_23 (xl_n hn (by decide)) rfl r_1_2 ?_
        refine xw_aload0 dr_write_25 ?_
        refine xw_getR dr_write_26 fl_r_19 (xl_n hn (by decide)) rfl r_1_1 ?_
        refine xw_cW dr_write_29 (lk_r_write_29 (xl_n hn (by decide)) rfl) ok_g_copy (mg_copy_7_3 hl hn) ⟨Nat.le_of_ble_eq_true rfl, Nat.le_of_ble_eq_true rfl⟩ ?_
        refine xw_lw (fun s4 e_s4 => ?_)
        have hJ_s4 : jx_J s4 := by rw [e_s4]; exact (jg_copy_7_3 hJ)
        refine xw_aload0 dr_write_32 ?_
        refine xw_iload1 dr_write_33 ?_
        refine xw_iload2 dr_write_34 ?_
        refine xw_ldc dr_write_35 kc_r_87 ?_
        refine xw_iand dr_write_37 ?_
        refine xw_iload3 dr_write_38 ?_
        refine xw_ldc dr_write_39 kc_r_87 ?_
        refine xw_iand dr_write_41 ?_
        refine xw_cC' (p0 := 32) (p1 := 45) (hp := 48) (ct := 95) dr_write_42 (lk_r_write_42 (xl_n hn (by decide)) rfl) ok_r_setWordIn (mr_setWordIn hl hn hJ_s4) ⟨Nat.le_of_ble_eq_true rfl, Nat.le_of_ble_eq_true rfl⟩ rfl (by decide) (by decide) xt_l xt_k (by rw [xk_e hn]; decide) (fun b5 s6 h_s6 => ?_) (fun s7 h_s7 => ?_)
        · have hJ_s6 : jx_J s6 := xj_o (jr_setWordIn hJ_s4) h_s6
          show xw_w _ _ _ _ _ [] _ _
          refine xw_goto dr_write_45 rfl ?_
          refine xw_aload0 dr_write_55 ?_
          refine xw_cPi dr_write_56 (lk_r_write_56 (xl_n hn (by decide)) rfl) ok_r_advance (mr_advance hl hn) ⟨Nat.le_of_ble_eq_true rfl, Nat.le_of_ble_eq_true rfl⟩ ?_
          refine xw_lpi (fun r8 e_r8 => ?_)
          have hJ_r8 : jx_J r8.2 := by rw [e_r8]; exact (jr_advance hJ_s6)
          exact xw_iret dr_write_59 rfl
        · have hJ_s7 : jx_J s7 := xj_o (jr_setWordIn hJ_s4) h_s7
          have hn1 : 29 ≤ n + 1 := Nat.le_succ_of_le hn
          refine xw_astore4 dr_write_48 (Nat.le_of_ble_eq_true rfl) rfl ?_
          refine xw_aload0 dr_write_50 ?_
          refine xw_e xc_e ?_
          refine xw_c0 dr_write_51 (lk_r_write_51 (xl_n hn1 (by decide)) rfl) ok_r_settle (mr_settle hl hn1 hJ_s7) ⟨Nat.le_of_ble_eq_true rfl, Nat.le_of_ble_eq_true rfl⟩ ?_
          exact xw_iret dr_write_54 rfl
      · refine xw_bipush dr_write_18 kb_m2 ?_
        exact xw_iret dr_write_20 rfl
  · refine xw_iconst dr_write_7 ki_m1 ?_
    exact xw_iret dr_write_8 rfl
theorem jr_write {a1 : Int32} {a2 : Int32} {a3 : Int32} {σ : xs_S} (hJ : jx_J σ) : jx_J (fr_write a1 a2 a3 σ).2.1 := by
  unfold fr_write
  refine xk_f (fun h1 => ?_) (fun h1 => ?_)
  · refine xk_f (fun h2 => ?_) (fun h2 => ?_)
    · exact hJ
    · refine xk_f (fun h3 => ?_) (fun h3 => ?_)
      · refine xk_l (fun s4 e_s4 => ?_)
        have hJ_s4 : jx_J s4 := by rw [e_s4]; exact (jg_copy_7_3 hJ)
        refine xk_m (jr_setWordIn hJ_s4) (fun b5 s6 h_s6 hJ_s6 => ?_) (fun s7 h_s7 hJ_s7 => ?_)
        · refine xk_l (fun r8 e_r8 => ?_)
          have hJ_r8 : jx_J r8.2 := by rw [e_r8]; exact (jr_advance hJ_s6)
          exact hJ_r8
        · exact jr_settle hJ_s7
      · exact hJ
  · exact hJ
def fr_push (a1 : Int32) (σ : xs_S) : Int32 × xs_S × Nat := (if (σ 1 12) = 0 then xl_l ((fg_copy_7_3 σ)) (fun s2 => xc_m (fr_pushWord (a1 &&& (65535 : Int32)) s2) (fun b3 s4 => xl_l (fr_advance s4) (fun r6 => (r6.1, r6.2, 0))) (fun s5 => xl_l (fr_settle s5) (fun r => (r.1, r.2.1, r.2.2 + 1)))) else ((-1 : Int32), σ, 0))
set_option maxRecDepth 100000 in
set_option maxHeartbeats 4000000 in
theorem mr_push {l : Launch} {N n u : Nat} {a1 : Int32} {σ : xs_S} (hl : l.stackTraces = false) (hn : 29 ≤ n) (hJ : jx_J σ) : xm_m (xk_k N) l tr_push [.ref 1, .int a1] (n, u, σ, xr_0) (xe_c n u (fr_push a1 σ)) := by
  refine xm_of hl ok_r_push (Nat.le_of_ble_eq_true rfl) ?_
  show xw_w (xk_k N) l tr_push 0 [some (.ref 1), some (.int a1), none] [] (n, u, σ, xr_0) (xe_c n u (fr_push a1 σ))
  unfold fr_push
  refine xw_aload0 dr_push_0 ?_
  refine xw_getI dr_push_1 fl_r_63 (by decide) (xl_n hn (by decide)) rfl ?_
  refine xw_if_eq' dr_push_4 rfl (fun h1 => ?_) (fun h1 => ?_)
  · refine xw_aload0 dr_push_9 ?_
    refine xw_getR dr_push_10 fl_r_23 (xl_n hn (by decide)) rfl r_1_2 ?_
    refine xw_aload0 dr_push_13 ?_
    refine xw_getR dr_push_14 fl_r_19 (xl_n hn (by decide)) rfl r_1_1 ?_
    refine xw_cW dr_push_17 (lk_r_push_17 (xl_n hn (by decide)) rfl) ok_g_copy (mg_copy_7_3 hl hn) ⟨Nat.le_of_ble_eq_true rfl, Nat.le_of_ble_eq_true rfl⟩ ?_
    refine xw_lw (fun s2 e_s2 => ?_)
    have hJ_s2 : jx_J s2 := by rw [e_s2]; exact (jg_copy_7_3 hJ)
    refine xw_aload0 dr_push_20 ?_
    refine xw_iload1 dr_push_21 ?_
    refine xw_ldc dr_push_22 kc_r_87 ?_
    refine xw_iand dr_push_24 ?_
    refine xw_cC' (p0 := 20) (p1 := 28) (hp := 31) (ct := 95) dr_push_25 (lk_r_push_25 (xl_n hn (by decide)) rfl) ok_r_pushWord (mr_pushWord hl hn hJ_s2) ⟨Nat.le_of_ble_eq_true rfl, Nat.le_of_ble_eq_true rfl⟩ rfl (by decide) (by decide) xt_l xt_k (by rw [xk_e hn]; decide) (fun b3 s4 h_s4 => ?_) (fun s5 h_s5 => ?_)
    · have hJ_s4 : jx_J s4 := xj_o (jr_pushWord hJ_s2) h_s4
      show xw_w _ _ _ _ _ [] _ _
      refine xw_goto dr_push_28 rfl ?_
      refine xw_aload0 dr_push_37 ?_
      refine xw_cPi dr_push_38 (lk_r_push_38 (xl_n hn (by decide)) rfl) ok_r_advance (mr_advance hl hn) ⟨Nat.le_of_ble_eq_true rfl, Nat.le_of_ble_eq_true rfl⟩ ?_
      refine xw_lpi (fun r6 e_r6 => ?_)
      have hJ_r6 : jx_J r6.2 := by rw [e_r6]; exact (jr_advance hJ_s4)
      exact xw_iret dr_push_41 rfl
    · have hJ_s5 : jx_J s5 := xj_o (jr_pushWord hJ_s2) h_s5
      have hn1 : 29 ≤ n + 1 := Nat.le_succ_of_le hn
      refine xw_astore2 dr_push_31 (Nat.le_of_ble_eq_true rfl) rfl ?_
      refine xw_aload0 dr_push_32 ?_
      refine xw_e xc_e ?_
      refine xw_c0 dr_push_33 (lk_r_push_33 (xl_n hn1 (by decide)) rfl) ok_r_settle (mr_settle hl hn1 hJ_s5) ⟨Nat.le_of_ble_eq_true rfl, Nat.le_of_ble_eq_true rfl⟩ ?_
      exact xw_iret dr_push_36 rfl
  · refine xw_iconst dr_push_7 ki_m1 ?_
    exact xw_iret dr_push_8 rfl
theorem jr_push {a1 : Int32} {σ : xs_S} (hJ : jx_J σ) : jx_J (fr_push a1 σ).2.1 := by
  unfold fr_push
  refine xk_f (fun h1 => ?_) (fun h1 => ?_)
  · refine xk_l (fun s2 e_s2 => ?_)
    have hJ_s2 : jx_J s2 := by rw [e_s2]; exact (jg_copy_7_3 hJ)
    refine xk_m (jr_pushWord hJ_s2) (fun b3 s4 h_s4 hJ_s4 => ?_) (fun s5 h_s5 hJ_s5 => ?_)
    · refine xk_l (fun r6 e_r6 => ?_)
      have hJ_r6 : jx_J r6.2 := by rw [e_r6]; exact (jr_advance hJ_s4)
      exact hJ_r6
    · exact jr_settle hJ_s5
  · exact hJ
def fr_popWord (σ : xs_S) : xp_P Int32 := xp_b (fr_wordIn (1 : Int32) (σ 3 3) σ) (fun b1 s2 => xl_l ((xu_u s2 3 3 (((s2 3 3) + (2 : Int32)) &&& (65535 : Int32)))) (fun s3 => (some b1, s3)))
set_option maxRecDepth 100000 in
set_option maxHeartbeats 4000000 in
theorem mr_popWord {l : Launch} {N n u : Nat} {σ : xs_S} (hl : l.stackTraces = false) (hn : 29 ≤ n) (hJ : jx_J σ) : xm_m (xk_k N) l tr_popWord [.ref 1] (n, u, σ, xr_0) (xe_t ei_i n u (fr_popWord σ)) := by
  refine xm_of hl ok_r_popWord (Nat.le_of_ble_eq_true rfl) ?_
  show xw_w (xk_k N) l tr_popWord 0 [some (.ref 1), none] [] (n, u, σ, xr_0) (xe_t ei_i n u (fr_popWord σ))
  unfold fr_popWord
  refine xw_aload0 dr_popWord_0 ?_
  refine xw_iconst dr_popWord_1 ki_1 ?_
  refine xw_aload0 dr_popWord_2 ?_
  refine xw_getR dr_popWord_3 fl_r_19 (xl_n hn (by decide)) rfl r_1_1 ?_
  refine xw_getI dr_popWord_6 fl_r_151 (by decide) (xl_n hn (by decide)) rfl ?_
  refine xw_cTi dr_popWord_9 (lk_r_popWord_9 (xl_n hn (by decide)) rfl) ok_r_wordIn (mr_wordIn hl hn hJ) ⟨Nat.le_of_ble_eq_true rfl, Nat.le_of_ble_eq_true rfl⟩ rfl (fun b1 s2 h_s2 => ?_)
  have hJ_s2 : jx_J s2 := xj_o (jr_wordIn hJ) h_s2
  refine xw_istore1 dr_popWord_12 (Nat.le_of_ble_eq_true rfl) rfl ?_
  refine xw_aload0 dr_popWord_13 ?_
  refine xw_getR dr_popWord_14 fl_r_19 (xl_n hn (by decide)) rfl r_1_1 ?_
  refine xw_aload0 dr_popWord_17 ?_
  refine xw_getR dr_popWord_18 fl_r_19 (xl_n hn (by decide)) rfl r_1_1 ?_
  refine xw_getI dr_popWord_21 fl_r_151 (by decide) (xl_n hn (by decide)) rfl ?_
  refine xw_iconst dr_popWord_24 ki_2 ?_
  refine xw_iadd dr_popWord_25 ?_
  refine xw_ldc dr_popWord_26 kc_r_87 ?_
  refine xw_iand dr_popWord_28 ?_
  refine xw_putI dr_popWord_29 fl_r_151 nf_3_3 (by decide) (xl_n hn (by decide)) rfl ?_
  refine xw_lw (fun s3 e_s3 => ?_)
  have hJ_s3 : jx_J s3 := by rw [e_s3]; exact (jx_u hJ_s2 (by decide))
  refine xw_iload1 dr_popWord_32 ?_
  exact xw_iret dr_popWord_33 rfl
theorem jr_popWord {σ : xs_S} (hJ : jx_J σ) : jx_J (fr_popWord σ).2 := by
  unfold fr_popWord
  refine xj_b (jr_wordIn hJ) (fun b1 s2 h_s2 hJ_s2 => ?_)
  refine xj_l (fun s3 e_s3 => ?_)
  have hJ_s3 : jx_J s3 := by rw [e_s3]; exact (jx_u hJ_s2 (by decide))
  exact hJ_s3
def fr_pop (σ : xs_S) : Int32 × xs_S × Nat := (if (σ 1 12) = 0 then xl_l ((fg_copy_7_3 σ)) (fun s2 => xc_m (fr_popWord s2) (fun b3 s4 => xl_l ((xu_u s4 3 10 b3)) (fun s6 => xl_l (fr_advance s6) (fun r7 => (r7.1, r7.2, 0)))) (fun s5 => xl_l (fr_settle s5) (fun r => (r.1, r.2.1, r.2.2 + 1)))) else ((-1 : Int32), σ, 0))
set_option maxRecDepth 100000 in
set_option maxHeartbeats 4000000 in
theorem mr_pop {l : Launch} {N n u : Nat} {σ : xs_S} (hl : l.stackTraces = false) (hn : 29 ≤ n) (hJ : jx_J σ) : xm_m (xk_k N) l tr_pop [.ref 1] (n, u, σ, xr_0) (xe_c n u (fr_pop σ)) := by
  refine xm_of hl ok_r_pop (Nat.le_of_ble_eq_true rfl) ?_
  show xw_w (xk_k N) l tr_pop 0 [some (.ref 1), none] [] (n, u, σ, xr_0) (xe_c n u (fr_pop σ))
  unfold fr_pop
  refine xw_aload0 dr_pop_0 ?_
  refine xw_getI dr_pop_1 fl_r_63 (by decide) (xl_n hn (by decide)) rfl ?_
  refine xw_if_eq' dr_pop_4 rfl (fun h1 => ?_) (fun h1 => ?_)
  · refine xw_aload0 dr_pop_9 ?_
    refine xw_getR dr_pop_10 fl_r_23 (xl_n hn (by decide)) rfl r_1_2 ?_
    refine xw_aload0 dr_pop_13 ?_
    refine xw_getR dr_pop_14 fl_r_19 (xl_n hn (by decide)) rfl r_1_1 ?_
    refine xw_cW dr_pop_17 (lk_r_pop_17 (xl_n hn (by decide)) rfl) ok_g_copy (mg_copy_7_3 hl hn) ⟨Nat.le_of_ble_eq_true rfl, Nat.le_of_ble_eq_true rfl⟩ ?_
    refine xw_lw (fun s2 e_s2 => ?_)
    have hJ_s2 : jx_J s2 := by rw [e_s2]; exact (jg_copy_7_3 hJ)
    refine xw_aload0 dr_pop_20 ?_
    refine xw_getR dr_pop_21 fl_r_19 (xl_n hn (by decide)) rfl r_1_1 ?_
    refine xw_aload0 dr_pop_24 ?_
    refine xw_cC' (p0 := 20) (p1 := 31) (hp := 34) (ct := 95) dr_pop_25 (lk_r_pop_25 (xl_n hn (by decide)) rfl) ok_r_popWord (mr_popWord hl hn hJ_s2) ⟨Nat.le_of_ble_eq_true rfl, Nat.le_of_ble_eq_true rfl⟩ rfl (by decide) (by decide) xt_l xt_k (by rw [xk_e hn]; decide) (fun b3 s4 h_s4 => ?_) (fun s5 h_s5 => ?_)
    · have hJ_s4 : jx_J s4 := xj_o (jr_popWord hJ_s2) h_s4
      show xw_w _ _ _ _ _ (.int (b3) :: .ref (3) :: []) _ _
      refine xw_putI dr_pop_28 fl_r_108 nf_3_10 (by decide) (xl_n hn (by decide)) rfl ?_
      refine xw_lw (fun s6 e_s6 => ?_)
      have hJ_s6 : jx_J s6 := by rw [e_s6]; exact (jx_u hJ_s4 (by decide))
      refine xw_goto dr_pop_31 rfl ?_
      refine xw_aload0 dr_pop_40 ?_
      refine xw_cPi dr_pop_41 (lk_r_pop_41 (xl_n hn (by decide)) rfl) ok_r_advance (mr_advance hl hn) ⟨Nat.le_of_ble_eq_true rfl, Nat.le_of_ble_eq_true rfl⟩ ?_
      refine xw_lpi (fun r7 e_r7 => ?_)
      have hJ_r7 : jx_J r7.2 := by rw [e_r7]; exact (jr_advance hJ_s6)
      exact xw_iret dr_pop_44 rfl
    · have hJ_s5 : jx_J s5 := xj_o (jr_popWord hJ_s2) h_s5
      have hn1 : 29 ≤ n + 1 := Nat.le_succ_of_le hn
      refine xw_astore1 dr_pop_34 (Nat.le_of_ble_eq_true rfl) rfl ?_
      refine xw_aload0 dr_pop_35 ?_
      refine xw_e xc_e ?_
      refine xw_c0 dr_pop_36 (lk_r_pop_36 (xl_n hn1 (by decide)) rfl) ok_r_settle (mr_settle hl hn1 hJ_s5) ⟨Nat.le_of_ble_eq_true rfl, Nat.le_of_ble_eq_true rfl⟩ ?_
      exact xw_iret dr_pop_39 rfl
  · refine xw_iconst dr_pop_7 ki_m1 ?_
    exact xw_iret dr_pop_8 rfl
theorem jr_pop {σ : xs_S} (hJ : jx_J σ) : jx_J (fr_pop σ).2.1 := by
  unfold fr_pop
  refine xk_f (fun h1 => ?_) (fun h1 => ?_)
  · refine xk_l (fun s2 e_s2 => ?_)
    have hJ_s2 : jx_J s2 := by rw [e_s2]; exact (jg_copy_7_3 hJ)
    refine xk_m (jr_popWord hJ_s2) (fun b3 s4 h_s4 hJ_s4 => ?_) (fun s5 h_s5 hJ_s5 => ?_)
    · refine xk_l (fun s6 e_s6 => ?_)
      have hJ_s6 : jx_J s6 := by rw [e_s6]; exact (jx_u hJ_s4 (by decide))
      refine xk_l (fun r7 e_r7 => ?_)
      have hJ_r7 : jx_J r7.2 := by rw [e_r7]; exact (jr_advance hJ_s6)
      exact hJ_r7
    · exact jr_settle hJ_s5
  · exact hJ
