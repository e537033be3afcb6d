def fr_saveState (a1 : Int32) (σ : xs_S) : xp_P Unit := xl_l (((σ 3 8) + (14 : Int32))) (fun v1 => xp_b (fm_setWord v1 (fr_next σ) (0 : Int32) σ) (fun b2 s3 => xp_b (fm_setWord (v1 + (2 : Int32)) (if a1 = (2 : Int32) then ((s3 3 5) &&& (-3 : Int32)) else (s3 3 5)) (0 : Int32) s3) (fun b4 s5 => xp_b (fm_setWord (v1 + (4 : Int32)) (s5 3 3) (0 : Int32) s5) (fun b6 s7 => xp_b (fm_setWord (v1 + (6 : Int32)) (s7 4 0) (0 : Int32) s7) (fun b8 s9 => xp_b (fm_setWord (v1 + (8 : Int32)) (s9 5 0) (0 : Int32) s9) (fun b10 s11 => xp_b (fm_setWord (v1 + (10 : Int32)) (s11 6 0) (0 : Int32) s11) (fun b12 s13 => xp_b (fm_setWord (v1 + (12 : Int32)) (s13 3 6) (0 : Int32) s13) (fun b14 s15 => xp_b (fm_setWord (v1 + (14 : Int32)) (s15 3 9) (0 : Int32) s15) (fun b16 s17 => (some (), s17))))))))))
set_option maxRecDepth 100000 in
set_option maxHeartbeats 4000000 in
theorem mr_saveState {l : Launch} {N n u : Nat} {a1 : Int32} {σ : xs_S} (hl : l.stackTraces = false) (hn : 29 ≤ n) (hJ : jx_J σ) : xm_m (xk_k N) l tr_saveState [.ref 1, .int a1] (n, u, σ, xr_0) (xe_t eu_u n u (fr_saveState a1 σ)) := by
  refine xm_of hl ok_r_saveState (Nat.le_of_ble_eq_true rfl) ?_
  show xw_w (xk_k N) l tr_saveState 0 [some (.ref 1), some (.int a1), none] [] (n, u, σ, xr_0) (xe_t eu_u n u (fr_saveState a1 σ))
  unfold fr_saveState
  refine xw_aload0 dr_saveState_0 ?_
  refine xw_getR dr_saveState_1 fl_r_19 (xl_n hn (by decide)) rfl r_1_1 ?_
  refine xw_getI dr_saveState_4 fl_r_163 (by decide) (xl_n hn (by decide)) rfl ?_
  refine xw_bipush dr_saveState_7 kb_14 ?_
  refine xw_iadd dr_saveState_9 ?_
  refine xw_li (fun v1 e_v1 => ?_)
  refine xw_istore2 dr_saveState_10 (Nat.le_of_ble_eq_true rfl) rfl ?_
  refine xw_aload0 dr_saveState_11 ?_
  refine xw_getR dr_saveState_12 fl_r_31 (xl_n hn (by decide)) rfl r_1_3 ?_
  refine xw_iload2 dr_saveState_15 ?_
  refine xw_aload0 dr_saveState_16 ?_
  refine xw_cVi dr_saveState_17 (lk_r_saveState_17 (xl_n hn (by decide)) rfl) ok_r_next (mr_next hl hn) ⟨Nat.le_of_ble_eq_true rfl, Nat.le_of_ble_eq_true rfl⟩ ?_
  refine xw_iconst dr_saveState_20 ki_0 ?_
  refine xw_cTu dr_saveState_21 (lk_r_saveState_21 (xl_n hn (by decide)) rfl) ok_m_setWord (mm_setWord hl hn hJ) ⟨Nat.le_of_ble_eq_true rfl, Nat.le_of_ble_eq_true rfl⟩ rfl (fun b2 s3 h_s3 => ?_)
  have hJ_s3 : jx_J s3 := xj_o (jm_setWord hJ) h_s3
  refine xw_aload0 dr_saveState_24 ?_
  refine xw_getR dr_saveState_25 fl_r_31 (xl_n hn (by decide)) rfl r_1_3 ?_
  refine xw_iload2 dr_saveState_28 ?_
  refine xw_iconst dr_saveState_29 ki_2 ?_
  refine xw_iadd dr_saveState_30 ?_
  refine xw_iload1 dr_saveState_31 ?_
  refine xw_iconst dr_saveState_32 ki_2 ?_
  refine xw_icmp_ne_mi (J := 56) (a := ((s3 3 5) &&& (-3 : Int32))) (b := (s3 3 5)) dr_saveState_33 rfl (fun _ E' k' => ?_) (fun _ E' k' => ?_) ?_
  · refine xw_aload0 dr_saveState_49 ?_
    refine xw_getR dr_saveState_50 fl_r_19 (xl_n hn (by decide)) rfl r_1_1 ?_
    refine xw_getI dr_saveState_53 fl_r_133 (by decide) (xl_n hn (by decide)) rfl ?_
    exact k'
  · refine xw_aload0 dr_saveState_36 ?_
    refine xw_getR dr_saveState_37 fl_r_19 (xl_n hn (by decide)) rfl r_1_1 ?_
    refine xw_getI dr_saveState_40 fl_r_133 (by decide) (xl_n hn (by decide)) rfl ?_
    refine xw_bipush dr_saveState_43 kb_m3 ?_
    refine xw_iand dr_saveState_45 ?_
    refine xw_goto dr_saveState_46 rfl ?_
    exact k'
  refine xw_iconst dr_saveState_56 ki_0 ?_
  refine xw_cTu dr_saveState_57 (lk_r_saveState_57 (xl_n hn (by decide)) rfl) ok_m_setWord (mm_setWord hl hn hJ_s3) ⟨Nat.le_of_ble_eq_true rfl, Nat.le_of_ble_eq_true rfl⟩ rfl (fun b4 s5 h_s5 => ?_)
  have hJ_s5 : jx_J s5 := xj_o (jm_setWord hJ_s3) h_s5
  refine xw_aload0 dr_saveState_60 ?_
  refine xw_getR dr_saveState_61 fl_r_31 (xl_n hn (by decide)) rfl r_1_3 ?_
  refine xw_iload2 dr_saveState_64 ?_
  refine xw_iconst dr_saveState_65 ki_4 ?_
  refine xw_iadd dr_saveState_66 ?_
  refine xw_aload0 dr_saveState_67 ?_
  refine xw_getR dr_saveState_68 fl_r_19 (xl_n hn (by decide)) rfl r_1_1 ?_
  refine xw_getI dr_saveState_71 fl_r_151 (by decide) (xl_n hn (by decide)) rfl ?_
  refine xw_iconst dr_saveState_74 ki_0 ?_
  refine xw_cTu dr_saveState_75 (lk_r_saveState_75 (xl_n hn (by decide)) rfl) ok_m_setWord (mm_setWord hl hn hJ_s5) ⟨Nat.le_of_ble_eq_true rfl, Nat.le_of_ble_eq_true rfl⟩ rfl (fun b6 s7 h_s7 => ?_)
  have hJ_s7 : jx_J s7 := xj_o (jm_setWord hJ_s5) h_s7
  refine xw_aload0 dr_saveState_78 ?_
  refine xw_getR dr_saveState_79 fl_r_31 (xl_n hn (by decide)) rfl r_1_3 ?_
  refine xw_iload2 dr_saveState_82 ?_
  refine xw_bipush dr_saveState_83 kb_6 ?_
  refine xw_iadd dr_saveState_85 ?_
  refine xw_aload0 dr_saveState_86 ?_
  refine xw_getR dr_saveState_87 fl_r_19 (xl_n hn (by decide)) rfl r_1_1 ?_
  refine xw_getR dr_saveState_90 fl_r_139 (xl_n hn (by decide)) rfl r_3_0 ?_
  refine xw_getI dr_saveState_93 fl_r_142 (by decide) (xl_n hn (by decide)) rfl ?_
  refine xw_iconst dr_saveState_96 ki_0 ?_
  refine xw_cTu dr_saveState_97 (lk_r_saveState_97 (xl_n hn (by decide)) rfl) ok_m_setWord (mm_setWord hl hn hJ_s7) ⟨Nat.le_of_ble_eq_true rfl, Nat.le_of_ble_eq_true rfl⟩ rfl (fun b8 s9 h_s9 => ?_)
  have hJ_s9 : jx_J s9 := xj_o (jm_setWord hJ_s7) h_s9
  refine xw_aload0 dr_saveState_100 ?_
  refine xw_getR dr_saveState_101 fl_r_31 (xl_n hn (by decide)) rfl r_1_3 ?_
  refine xw_iload2 dr_saveState_104 ?_
  refine xw_bipush dr_saveState_105 kb_8 ?_
  refine xw_iadd dr_saveState_107 ?_
  refine xw_aload0 dr_saveState_108 ?_
  refine xw_getR dr_saveState_109 fl_r_19 (xl_n hn (by decide)) rfl r_1_1 ?_
  refine xw_getR dr_saveState_112 fl_r_145 (xl_n hn (by decide)) rfl r_3_1 ?_
  refine xw_getI dr_saveState_115 fl_r_142 (by decide) (xl_n hn (by decide)) rfl ?_
  refine xw_iconst dr_saveState_118 ki_0 ?_
  refine xw_cTu dr_saveState_119 (lk_r_saveState_119 (xl_n hn (by decide)) rfl) ok_m_setWord (mm_setWord hl hn hJ_s9) ⟨Nat.le_of_ble_eq_true rfl, Nat.le_of_ble_eq_true rfl⟩ rfl (fun b10 s11 h_s11 => ?_)
  have hJ_s11 : jx_J s11 := xj_o (jm_setWord hJ_s9) h_s11
  refine xw_aload0 dr_saveState_122 ?_
  refine xw_getR dr_saveState_123 fl_r_31 (xl_n hn (by decide)) rfl r_1_3 ?_
  refine xw_iload2 dr_saveState_126 ?_
  refine xw_bipush dr_saveState_127 kb_10 ?_
  refine xw_iadd dr_saveState_129 ?_
  refine xw_aload0 dr_saveState_130 ?_
  refine xw_getR dr_saveState_131 fl_r_19 (xl_n hn (by decide)) rfl r_1_1 ?_
  refine xw_getR dr_saveState_134 fl_r_148 (xl_n hn (by decide)) rfl r_3_2 ?_
  refine xw_getI dr_saveState_137 fl_r_142 (by decide) (xl_n hn (by decide)) rfl ?_
  refine xw_iconst dr_saveState_140 ki_0 ?_
  refine xw_cTu dr_saveState_141 (lk_r_saveState_141 (xl_n hn (by decide)) rfl) ok_m_setWord (mm_setWord hl hn hJ_s11) ⟨Nat.le_of_ble_eq_true rfl, Nat.le_of_ble_eq_true rfl⟩ rfl (fun b12 s13 h_s13 => ?_)
  have hJ_s13 : jx_J s13 := xj_o (jm_setWord hJ_s11) h_s13
  refine xw_aload0 dr_saveState_144 ?_
  refine xw_getR dr_saveState_145 fl_r_31 (xl_n hn (by decide)) rfl r_1_3 ?_
  refine xw_iload2 dr_saveState_148 ?_
  refine xw_bipush dr_saveState_149 kb_12 ?_
  refine xw_iadd dr_saveState_151 ?_
  refine xw_aload0 dr_saveState_152 ?_
  refine xw_getR dr_saveState_153 fl_r_19 (xl_n hn (by decide)) rfl r_1_1 ?_
  refine xw_getI dr_saveState_156 fl_r_157 (by decide) (xl_n hn (by decide)) rfl ?_
  refine xw_iconst dr_saveState_159 ki_0 ?_
  refine xw_cTu dr_saveState_160 (lk_r_saveState_160 (xl_n hn (by decide)) rfl) ok_m_setWord (mm_setWord hl hn hJ_s13) ⟨Nat.le_of_ble_eq_true rfl, Nat.le_of_ble_eq_true rfl⟩ rfl (fun b14 s15 h_s15 => ?_)
  have hJ_s15 : jx_J s15 := xj_o (jm_setWord hJ_s13) h_s15
  refine xw_aload0 dr_saveState_163 ?_
  refine xw_getR dr_saveState_164 fl_r_31 (xl_n hn (by decide)) rfl r_1_3 ?_
  refine xw_iload2 dr_saveState_167 ?_
  refine xw_bipush dr_saveState_168 kb_14 ?_
  refine xw_iadd dr_saveState_170 ?_
  refine xw_aload0 dr_saveState_171 ?_
  refine xw_getR dr_saveState_172 fl_r_19 (xl_n hn (by decide)) rfl r_1_1 ?_
  refine xw_getI dr_saveState_175 fl_r_77 (by decide) (xl_n hn (by decide)) rfl ?_
  refine xw_iconst dr_saveState_178 ki_0 ?_
  refine xw_cTu dr_saveState_179 (lk_r_saveState_179 (xl_n hn (by decide)) rfl) ok_m_setWord (mm_setWord hl hn hJ_s15) ⟨Nat.le_of_ble_eq_true rfl, Nat.le_of_ble_eq_true rfl⟩ rfl (fun b16 s17 h_s17 => ?_)
  have hJ_s17 : jx_J s17 := xj_o (jm_setWord hJ_s15) h_s17
  exact xw_vret dr_saveState_182 rfl
theorem jr_saveState {a1 : Int32} {σ : xs_S} (hJ : jx_J σ) : jx_J (fr_saveState a1 σ).2 := by
  unfold fr_saveState
  refine xj_l (fun v1 e_v1 => ?_)
  refine xj_b (jm_setWord hJ) (fun b2 s3 h_s3 hJ_s3 => ?_)
  refine xj_b (jm_setWord hJ_s3) (fun b4 s5 h_s5 hJ_s5 => ?_)
  refine xj_b (jm_setWord hJ_s5) (fun b6 s7 h_s7 hJ_s7 => ?_)
  refine xj_b (jm_setWord hJ_s7) (fun b8 s9 h_s9 hJ_s9 => ?_)
  refine xj_b (jm_setWord hJ_s9) (fun b10 s11 h_s11 hJ_s11 => ?_)
  refine xj_b (jm_setWord hJ_s11) (fun b12 s13 h_s13 hJ_s13 => ?_)
  refine xj_b (jm_setWord hJ_s13) (fun b14 s15 h_s15 hJ_s15 => ?_)
  refine xj_b (jm_setWord hJ_s15) (fun b16 s17 h_s17 hJ_s17 => ?_)
  exact hJ_s17
def fm_byteAt (a1 : Int32) (a2 : Int32) (σ : xs_S) : xp_P Int32 := xp_b (fm_locate a1 a2 (0 : Int32) σ) (fun b1 s2 => (some (fm_at b1 s2), s2))
set_option maxRecDepth 100000 in
set_option maxHeartbeats 4000000 in
theorem mm_byteAt {l : Launch} {N n u : Nat} {a1 : Int32} {a2 : Int32} {σ : xs_S} (hl : l.stackTraces = false) (hn : 29 ≤ n) (hJ : jx_J σ) : xm_m (xk_k N) l tm_byteAt [.ref 11, .int a1, .int a2] (n, u, σ, xr_0) (xe_t ei_i n u (fm_byteAt a1 a2 σ)) := by
  refine xm_of hl ok_m_byteAt (Nat.le_of_ble_eq_true rfl) ?_
  show xw_w (xk_k N) l tm_byteAt 0 [some (.ref 11), some (.int a1), some (.int a2)] [] (n, u, σ, xr_0) (xe_t ei_i n u (fm_byteAt a1 a2 σ))
  unfold fm_byteAt
  refine xw_aload0 dm_byteAt_0 ?_
  refine xw_aload0 dm_byteAt_1 ?_
  refine xw_iload1 dm_byteAt_2 ?_
  refine xw_iload2 dm_byteAt_3 ?_
  refine xw_iconst dm_byteAt_4 ki_0 ?_
  refine xw_cTi dm_byteAt_5 (lk_m_byteAt_5 (xl_n hn (by decide)) rfl) ok_m_locate (mm_locate hl hn hJ) ⟨Nat.le_of_ble_eq_true rfl, Nat.le_of_ble_eq_true rfl⟩ rfl (fun b1 s2 h_s2 => ?_)
  have hJ_s2 : jx_J s2 := xj_o (jm_locate hJ) h_s2
  refine xw_cVi dm_byteAt_8 (lk_m_byteAt_8 (xl_n hn (by decide)) rfl) ok_m_at (mm_at hl hn (lo_nn hJ h_s2)) ⟨Nat.le_of_ble_eq_true rfl, Nat.le_of_ble_eq_true rfl⟩ ?_
  exact xw_iret dm_byteAt_11 rfl
theorem jm_byteAt {a1 : Int32} {a2 : Int32} {σ : xs_S} (hJ : jx_J σ) : jx_J (fm_byteAt a1 a2 σ).2 := by
  unfold fm_byteAt
  refine xj_b (jm_locate hJ) (fun b1 s2 h_s2 hJ_s2 => ?_)
  exact hJ_s2
def fm_setByte (a1 : Int32) (a2 : Int32) (a3 : Int32) (σ : xs_S) : xp_P Unit := xp_b (fm_locate a1 a3 (1 : Int32) σ) (fun b1 s2 => xl_l ((fm_put b1 a2 s2)) (fun s3 => (some (), s3)))
set_option maxRecDepth 100000 in
set_option maxHeartbeats 4000000 in
theorem mm_setByte {l : Launch} {N n u : Nat} {a1 : Int32} {a2 : Int32} {a3 : Int32} {σ : xs_S} (hl : l.stackTraces = false) (hn : 29 ≤ n) (hJ : jx_J σ) : xm_m (xk_k N) l tm_setByte [.ref 11, .int a1, .int a2, .int a3] (n, u, σ, xr_0) (xe_t eu_u n u (fm_setByte a1 a2 a3 σ)) := by
  refine xm_of hl ok_m_setByte (Nat.le_of_ble_eq_true rfl) ?_
  show xw_w (xk_k N) l tm_setByte 0 [some (.ref 11), some (.int a1), some (.int a2), some (.int a3)] [] (n, u, σ, xr_0) (xe_t eu_u n u (fm_setByte a1 a2 a3 σ))
  unfold fm_setByte
  refine xw_aload0 dm_setByte_0 ?_
  refine xw_aload0 dm_setByte_1 ?_
  refine xw_iload1 dm_setByte_2 ?_
  refine xw_iload3 dm_setByte_3 ?_
  refine xw_iconst dm_setByte_4 ki_1 ?_
  refine xw_cTi dm_setByte_5 (lk_m_setByte_5 (xl_n hn (by decide)) rfl) ok_m_locate (mm_locate hl hn hJ) ⟨Nat.le_of_ble_eq_true rfl, Nat.le_of_ble_eq_true rfl⟩ rfl (fun b1 s2 h_s2 => ?_)
  have hJ_s2 : jx_J s2 := xj_o (jm_locate hJ) h_s2
  refine xw_iload2 dm_setByte_8 ?_
  refine xw_cW dm_setByte_9 (lk_m_setByte_9 (xl_n hn (by decide)) rfl) ok_m_put (mm_put hl hn (lo_nn hJ h_s2)) ⟨Nat.le_of_ble_eq_true rfl, Nat.le_of_ble_eq_true rfl⟩ ?_
  refine xw_lw (fun s3 e_s3 => ?_)
  have hJ_s3 : jx_J s3 := by rw [e_s3]; exact (jm_put hJ_s2)
  exact xw_vret dm_setByte_12 rfl
theorem jm_setByte {a1 : Int32} {a2 : Int32} {a3 : Int32} {σ : xs_S} (hJ : jx_J σ) : jx_J (fm_setByte a1 a2 a3 σ).2 := by
  unfold fm_setByte
  refine xj_b (jm_locate hJ) (fun b1 s2 h_s2 hJ_s2 => ?_)
  refine xj_l (fun s3 e_s3 => ?_)
  have hJ_s3 : jx_J s3 := by rw [e_s3]; exact (jm_put hJ_s2)
  exact hJ_s3
def fr_setKind (a1 : Int32) (a2 : Int32) (σ : xs_S) : xp_P Unit := xl_l ((((σ 1 9) + ((8 : Int32) * (a1 >>> ((2 : Int32) &&& 31)))) + (4 : Int32))) (fun v1 => xp_b (fm_byteAt v1 (0 : Int32) σ) (fun b2 s3 => xp_b (fm_setByte v1 ((b2 &&& (240 : Int32)) ||| a2) (0 : Int32) s3) (fun b4 s5 => (some (), s5))))
set_option maxRecDepth 100000 in
set_option maxHeartbeats 4000000 in
theorem mr_setKind {l : Launch} {N n u : Nat} {a1 : Int32} {a2 : Int32} {σ : xs_S} (hl : l.stackTraces = false) (hn : 29 ≤ n) (hJ : jx_J σ) : xm_m (xk_k N) l tr_setKind [.ref 1, .int a1, .int a2] (n, u, σ, xr_0) (xe_t eu_u n u (fr_setKind a1 a2 σ)) := by
  refine xm_of hl ok_r_setKind (Nat.le_of_ble_eq_true rfl) ?_
  show xw_w (xk_k N) l tr_setKind 0 [some (.ref 1), some (.int a1), some (.int a2), none, none] [] (n, u, σ, xr_0) (xe_t eu_u n u (fr_setKind a1 a2 σ))
  unfold fr_setKind
  refine xw_aload0 dr_setKind_0 ?_
  refine xw_getI dr_setKind_1 fl_r_67 (by decide) (xl_n hn (by decide)) rfl ?_
  refine xw_bipush dr_setKind_4 kb_8 ?_
  refine xw_iload1 dr_setKind_6 ?_
  refine xw_iconst dr_setKind_7 ki_2 ?_
  refine xw_ishr dr_setKind_8 ?_
  refine xw_imul dr_setKind_9 ?_
  refine xw_iadd dr_setKind_10 ?_
  refine xw_iconst dr_setKind_11 ki_4 ?_
  refine xw_iadd dr_setKind_12 ?_
  refine xw_li (fun v1 e_v1 => ?_)
  refine xw_istore3 dr_setKind_13 (Nat.le_of_ble_eq_true rfl) rfl ?_
  refine xw_aload0 dr_setKind_14 ?_
  refine xw_getR dr_setKind_15 fl_r_31 (xl_n hn (by decide)) rfl r_1_3 ?_
  refine xw_iload3 dr_setKind_18 ?_
  refine xw_iconst dr_setKind_19 ki_0 ?_
  refine xw_cTi dr_setKind_20 (lk_r_setKind_20 (xl_n hn (by decide)) rfl) ok_m_byteAt (mm_byteAt hl hn hJ) ⟨Nat.le_of_ble_eq_true rfl, Nat.le_of_ble_eq_true rfl⟩ rfl (fun b2 s3 h_s3 => ?_)
  have hJ_s3 : jx_J s3 := xj_o (jm_byteAt hJ) h_s3
  refine xw_istore4 dr_setKind_23 (Nat.le_of_ble_eq_true rfl) rfl ?_
  refine xw_aload0 dr_setKind_25 ?_
  refine xw_getR dr_setKind_26 fl_r_31 (xl_n hn (by decide)) rfl r_1_3 ?_
  refine xw_iload3 dr_setKind_29 ?_
  refine xw_iload4 dr_setKind_30 ?_
  refine xw_sipush dr_setKind_32 ks_240 ?_
  refine xw_iand dr_setKind_35 ?_
  refine xw_iload2 dr_setKind_36 ?_
  refine xw_ior dr_setKind_37 ?_
  refine xw_iconst dr_setKind_38 ki_0 ?_
  refine xw_cTu dr_setKind_39 (lk_r_setKind_39 (xl_n hn (by decide)) rfl) ok_m_setByte (mm_setByte hl hn hJ_s3) ⟨Nat.le_of_ble_eq_true rfl, Nat.le_of_ble_eq_true rfl⟩ rfl (fun b4 s5 h_s5 => ?_)
  have hJ_s5 : jx_J s5 := xj_o (jm_setByte hJ_s3) h_s5
  exact xw_vret dr_setKind_42 rfl
theorem jr_setKind {a1 : Int32} {a2 : Int32} {σ : xs_S} (hJ : jx_J σ) : jx_J (fr_setKind a1 a2 σ).2 := by
  unfold fr_setKind
  refine xj_l (fun v1 e_v1 => ?_)
  refine xj_b (jm_byteAt hJ) (fun b2 s3 h_s3 hJ_s3 => ?_)
  refine xj_b (jm_setByte hJ_s3) (fun b4 s5 h_s5 hJ_s5 => ?_)
  exact hJ_s5
def fr_markTasks (a1 : Int32) (σ : xs_S) : xp_P Unit := (if a1 = (1 : Int32) then (if a1 = (2 : Int32) then xp_b (fm_setWord (σ 13 1) (σ 3 7) (0 : Int32) σ) (fun b3 s4 => (some (), s4)) else xp_b (fr_setKind (σ 13 0) (6 : Int32) σ) (fun b5 s6 => xp_b (fm_setWord (s6 13 1) (s6 3 7) (0 : Int32) s6) (fun b7 s8 => (some (), s8)))) else (if (fr_isNull (σ 3 7) σ) = 0 then xp_b (fr_setKind (σ 3 7) (5 : Int32) σ) (fun b13 s14 => (if a1 = (2 : Int32) then (some (), s14) else xp_b (fr_setKind (s14 13 0) (6 : Int32) s14) (fun b16 s17 => (some (), s17)))) else (if a1 = (2 : Int32) then (some (), σ) else xp_b (fr_setKind (σ 13 0) (6 : Int32) σ) (fun b11 s12 => (some (), s12)))))
set_option maxRecDepth 100000 in
set_option maxHeartbeats 4000000 in
theorem mr_markTasks {l : Launch} {N n u : Nat} {a1 : Int32} {σ : xs_S} (hl : l.stackTraces = false) (hn : 29 ≤ n) (hJ : jx_J σ) : xm_m (xk_k N) l tr_markTasks [.ref 1, .int a1] (n, u, σ, xr_0) (xe_t eu_u n u (fr_markTasks a1 σ)) := by
  refine xm_of hl ok_r_markTasks (Nat.le_of_ble_eq_true rfl) ?_
  show xw_w (xk_k N) l tr_markTasks 0 [some (.ref 1), some (.int a1)] [] (n, u, σ, xr_0) (xe_t eu_u n u (fr_markTasks a1 σ))
  unfold fr_markTasks
  refine xw_iload1 dr_markTasks_0 ?_
  refine xw_iconst dr_markTasks_1 ki_1 ?_
  refine xw_icmp_eq' dr_markTasks_2 rfl (fun h1 => ?_) (fun h1 => ?_)
  · refine xw_iload1 dr_markTasks_30 ?_
    refine xw_iconst dr_markTasks_31 ki_2 ?_
    refine xw_icmp_eq' dr_markTasks_32 rfl (fun h2 => ?_) (fun h2 => ?_)
    · refine xw_iload1 dr_markTasks_48 ?_
      refine xw_iconst dr_markTasks_49 ki_1 ?_
      refine xw_icmp_ne_f dr_markTasks_50 rfl h1 ?_
      refine xw_aload0 dr_markTasks_53 ?_
      refine xw_getR dr_markTasks_54 fl_r_31 (xl_n hn (by decide)) rfl r_1_3 ?_
      refine xw_aload0 dr_markTasks_57 ?_
      refine xw_getR dr_markTasks_58 fl_r_38 (xl_n hn (by decide)) rfl r_1_4 ?_
      refine xw_getI dr_markTasks_61 fl_r_173 (by decide) (xl_n hn (by decide)) rfl ?_
      refine xw_aload0 dr_markTasks_64 ?_
      refine xw_getR dr_markTasks_65 fl_r_19 (xl_n hn (by decide)) rfl r_1_1 ?_
      refine xw_getI dr_markTasks_68 fl_r_160 (by decide) (xl_n hn (by decide)) rfl ?_
      refine xw_iconst dr_markTasks_71 ki_0 ?_
      refine xw_cTu dr_markTasks_72 (lk_r_markTasks_72 (xl_n hn (by decide)) rfl) ok_m_setWord (mm_setWord hl hn hJ) ⟨Nat.le_of_ble_eq_true rfl, Nat.le_of_ble_eq_true rfl⟩ rfl (fun b3 s4 h_s4 => ?_)
      have hJ_s4 : jx_J s4 := xj_o (jm_setWord hJ) h_s4
      exact xw_vret dr_markTasks_75 rfl
    · refine xw_aload0 dr_markTasks_35 ?_
      refine xw_aload0 dr_markTasks_36 ?_
      refine xw_getR dr_markTasks_37 fl_r_38 (xl_n hn (by decide)) rfl r_1_4 ?_
      refine xw_getI dr_markTasks_40 fl_r_142 (by decide) (xl_n hn (by decide)) rfl ?_
      refine xw_bipush dr_markTasks_43 kb_6 ?_
      refine xw_cTu dr_markTasks_45 (lk_r_markTasks_45 (xl_n hn (by decide)) rfl) ok_r_setKind (mr_setKind hl hn hJ) ⟨Nat.le_of_ble_eq_true rfl, Nat.le_of_ble_eq_true rfl⟩ rfl (fun b5 s6 h_s6 => ?_)
      have hJ_s6 : jx_J s6 := xj_o (jr_setKind hJ) h_s6
      refine xw_iload1 dr_markTasks_48 ?_
      refine xw_iconst dr_markTasks_49 ki_1 ?_
      refine xw_icmp_ne_f dr_markTasks_50 rfl h1 ?_
      refine xw_aload0 dr_markTasks_53 ?_
      refine xw_getR dr_markTasks_54 fl_r_31 (xl_n hn (by decide)) rfl r_1_3 ?_
      refine xw_aload0 dr_markTasks_57 ?_
      refine xw_getR dr_markTasks_58 fl_r_38 (xl_n hn (by decide)) rfl r_1_4 ?_
      refine xw_getI dr_markTasks_61 fl_r_173 (by decide) (xl_n hn (by decide)) rfl ?_
      refine xw_aload0 dr_markTasks_64 ?_
      refine xw_getR dr_markTasks_65 fl_r_19 (xl_n hn (by decide)) rfl r_1_1 ?_
      refine xw_getI dr_markTasks_68 fl_r_160 (by decide) (xl_n hn (by decide)) rfl ?_
      refine xw_iconst dr_markTasks_71 ki_0 ?_
      refine xw_cTu dr_markTasks_72 (lk_r_markTasks_72 (xl_n hn (by decide)) rfl) ok_m_setWord (mm_setWord hl hn hJ_s6) ⟨Nat.le_of_ble_eq_true rfl, Nat.le_of_ble_eq_true rfl⟩ rfl (fun b7 s8 h_s8 => ?_)
      have hJ_s8 : jx_J s8 := xj_o (jm_setWord hJ_s6) h_s8
      exact xw_vret dr_markTasks_75 rfl
  · refine xw_aload0 dr_markTasks_5 ?_
    refine xw_getR dr_markTasks_6 fl_r_19 (xl_n hn (by decide)) rfl r_1_1 ?_
    refine xw_getI dr_markTasks_9 fl_r_160 (by decide) (xl_n hn (by decide)) rfl ?_
    refine xw_cVi dr_markTasks_12 (lk_r_markTasks_12) ok_r_isNull (mr_isNull hl hn) ⟨Nat.le_of_ble_eq_true rfl, Nat.le_of_ble_eq_true rfl⟩ ?_
    refine xw_if_ne' dr_markTasks_15 rfl (fun h9 => ?_) (fun h9 => ?_)
    · refine xw_iload1 dr_markTasks_30 ?_
      refine xw_iconst dr_markTasks_31 ki_2 ?_
      refine xw_icmp_eq' dr_markTasks_32 rfl (fun h10 => ?_) (fun h10 => ?_)
      · refine xw_iload1 dr_markTasks_48 ?_
        refine xw_iconst dr_markTasks_49 ki_1 ?_
        refine xw_icmp_ne_t dr_markTasks_50 rfl h1 ?_
        exact xw_vret dr_markTasks_75 rfl
      · refine xw_aload0 dr_markTasks_35 ?_
        refine xw_aload0 dr_markTasks_36 ?_
        refine xw_getR dr_markTasks_37 fl_r_38 (xl_n hn (by decide)) rfl r_1_4 ?_
        refine xw_getI dr_markTasks_40 fl_r_142 (by decide) (xl_n hn (by decide)) rfl ?_
        refine xw_bipush dr_markTasks_43 kb_6 ?_
        refine xw_cTu dr_markTasks_45 (lk_r_markTasks_45 (xl_n hn (by decide)) rfl) ok_r_setKind (mr_setKind hl hn hJ) ⟨Nat.le_of_ble_eq_true rfl, Nat.le_of_ble_eq_true rfl⟩ rfl (fun b11 s12 h_s12 => ?_)
        have hJ_s12 : jx_J s12 := xj_o (jr_setKind hJ) h_s12
        refine xw_iload1 dr_markTasks_48 ?_
        refine xw_iconst dr_markTasks_49 ki_1 ?_
        refine xw_icmp_ne_t dr_markTasks_50 rfl h1 ?_
        exact xw_vret dr_markTasks_75 rfl
    · refine xw_aload0 dr_markTasks_18 ?_
      refine xw_aload0 dr_markTasks_19 ?_
      refine xw_getR dr_markTasks_20 fl_r_19 (xl_n hn (by decide)) rfl r_1_1 ?_
      refine xw_getI dr_markTasks_23 fl_r_160 (by decide) (xl_n hn (by decide)) rfl ?_
      refine xw_iconst dr_markTasks_26 ki_5 ?_
      refine xw_cTu dr_markTasks_27 (lk_r_markTasks_27 (xl_n hn (by decide)) rfl) ok_r_setKind (mr_setKind hl hn hJ) ⟨Nat.le_of_ble_eq_true rfl, Nat.le_of_ble_eq_true rfl⟩ rfl (fun b13 s14 h_s14 => ?_)
      have hJ_s14 : jx_J s14 := xj_o (jr_setKind hJ) h_s14
      refine xw_iload1 dr_markTasks_30 ?_
      refine xw_iconst dr_markTasks_31 ki_2 ?_
      refine xw_icmp_eq' dr_markTasks_32 rfl (fun h15 => ?_) (fun h15 => ?_)
      · refine xw_iload1 dr_markTasks_48 ?_
        refine xw_iconst dr_markTasks_49 ki_1 ?_
        refine xw_icmp_ne_t dr_markTasks_50 rfl h1 ?_
        exact xw_vret dr_markTasks_75 rfl
      · refine xw_aload0 dr_markTasks_35 ?_
        refine xw_aload0 dr_markTasks_36 ?_
        refine xw_getR dr_markTasks_37 fl_r_38 (xl_n hn (by decide)) rfl r_1_4 ?_
        refine xw_getI dr_markTasks_40 fl_r_142 (by decide) (xl_n hn (by decide)) rfl ?_
        refine xw_bipush dr_markTasks_43 kb_6 ?_
        refine xw_cTu dr_markTasks_45 (lk_r_markTasks_45 (xl_n hn (by decide)) rfl) ok_r_setKind (mr_setKind hl hn hJ_s14) ⟨Nat.le_of_ble_eq_true rfl, Nat.le_of_ble_eq_true rfl⟩ rfl (fun b16 s17 h_s17 => ?_)
        have hJ_s17 : jx_J s17 := xj_o (jr_setKind hJ_s14) h_s17
        refine xw_iload1 dr_markTasks_48 ?_
        refine xw_iconst dr_markTasks_49 ki_1 ?_
        refine xw_icmp_ne_t dr_markTasks_50 rfl h1 ?_
        exact xw_vret dr_markTasks_75 rfl
theorem jr_markTasks {a1 : Int32} {σ : xs_S} (hJ : jx_J σ) : jx_J (fr_markTasks a1 σ).2 := by
  unfold fr_markTasks
  refine xj_f (fun h1 => ?_) (fun h1 => ?_)
  · refine xj_f (fun h2 => ?_) (fun h2 => ?_)
    · refine xj_b (jm_setWord hJ) (fun b3 s4 h_s4 hJ_s4 => ?_)
      exact hJ_s4
    · refine xj_b (jr_setKind hJ) (fun b5 s6 h_s6 hJ_s6 => ?_)
      refine xj_b (jm_setWord hJ_s6) (fun b7 s8 h_s8 hJ_s8 => ?_)
      exact hJ_s8
  · refine xj_f (fun h9 => ?_) (fun h9 => ?_)
    · refine xj_b (jr_setKind hJ) (fun b13 s14 h_s14 hJ_s14 => ?_)
      refine xj_f (fun h15 => ?_) (fun h15 => ?_)
      · exact hJ_s14
      · refine xj_b (jr_setKind hJ_s14) (fun b16 s17 h_s17 hJ_s17 => ?_)
        exact hJ_s17
    · refine xj_f (fun h10 => ?_) (fun h10 => ?_)
      · exact hJ
      · refine xj_b (jr_setKind hJ) (fun b11 s12 h_s12 hJ_s12 => ?_)
        exact hJ_s12
def fr_fitsTask (a1 : Int32) (σ : xs_S) : Int32 := (if a1 = (0 : Int32) then (fd_isCode 14 σ) else (if a1 = (1 : Int32) then (if (σ 14 3) = (4 : Int32) then (1 : Int32) else (0 : Int32)) else (fd_isReadable 14 σ)))
set_option maxRecDepth 100000 in
set_option maxHeartbeats 4000000 in
theorem mr_fitsTask {l : Launch} {N n u : Nat} {a1 : Int32} {σ : xs_S} (hl : l.stackTraces = false) (hn : 29 ≤ n) : xm_m (xk_k N) l tr_fitsTask [.ref 1, .int a1] (n, u, σ, xr_0) (xe_v ei_i n u σ (fr_fitsTask a1 σ)) := by
  refine xm_of hl ok_r_fitsTask (Nat.le_of_ble_eq_true rfl) ?_
  show xw_w (xk_k N) l tr_fitsTask 0 [some (.ref 1), some (.int a1)] [] (n, u, σ, xr_0) (xe_v ei_i n u σ (fr_fitsTask a1 σ))
  unfold fr_fitsTask
  refine xw_iload1 dr_fitsTask_0 ?_
  refine xw_sp (fun h1 => ?_) (fun h1 => ?_)
  · refine xw_lsw (off := 27) dr_fitsTask_1 (by decide) (by rw [h1]; decide) rfl ?_
    refine xw_aload0 dr_fitsTask_28 ?_
    refine xw_getR dr_fitsTask_29 fl_r_42 (xl_n hn (by decide)) rfl r_1_5 ?_
    refine xw_cVi dr_fitsTask_32 (lk_r_fitsTask_32 (xl_n hn (by decide)) rfl) ok_d_isCode (md_isCode hl hn (by decide) (xl_n hn (by decide)) rfl) ⟨Nat.le_of_ble_eq_true rfl, Nat.le_of_ble_eq_true rfl⟩ ?_
    exact xw_zret dr_fitsTask_35 rfl bi_c
  · refine xw_sp (fun h2 => ?_) (fun h2 => ?_)
    · refine xw_lsw (off := 35) dr_fitsTask_1 (by decide) (by rw [h2]; decide) rfl ?_
      refine xw_aload0 dr_fitsTask_36 ?_
      refine xw_getR dr_fitsTask_37 fl_r_42 (xl_n hn (by decide)) rfl r_1_5 ?_
      refine xw_getI dr_fitsTask_40 fl_r_179 (by decide) (xl_n hn (by decide)) rfl ?_
      refine xw_iconst dr_fitsTask_43 ki_4 ?_
      refine xw_icmp_ne' dr_fitsTask_44 rfl (fun h3 => ?_) (fun h3 => ?_)
      · refine xw_iconst dr_fitsTask_51 ki_0 ?_
        exact xw_zret dr_fitsTask_52 rfl (by decide)
      · refine xw_iconst dr_fitsTask_47 ki_1 ?_
        refine xw_goto dr_fitsTask_48 rfl ?_
        exact xw_zret dr_fitsTask_52 rfl (by decide)
    · refine xw_lsw (off := 52) dr_fitsTask_1 (by decide) (by show Op.lookupswitch.offset [(0, 27), (1, 35)] 52 (a1).toInt = 52; rw [lv_osw (a := 0) h1 (by decide), lv_osw (a := 1) h2 (by decide)]; rfl) rfl ?_
      refine xw_aload0 dr_fitsTask_53 ?_
      refine xw_getR dr_fitsTask_54 fl_r_42 (xl_n hn (by decide)) rfl r_1_5 ?_
      refine xw_cVi dr_fitsTask_57 (lk_r_fitsTask_57 (xl_n hn (by decide)) rfl) ok_d_isReadable (md_isReadable hl hn (by decide) (xl_n hn (by decide)) rfl) ⟨Nat.le_of_ble_eq_true rfl, Nat.le_of_ble_eq_true rfl⟩ ?_
      exact xw_zret dr_fitsTask_60 rfl bi_r
def fr_takeSegment (a1 : Int32) (a2 : Int32) (σ : xs_S) : xp_P Unit := xl_l ((fd_clear (fg_held a1 σ) σ)) (fun s1 => xl_l ((fg_copy_7_3 s1)) (fun s2 => (if (fr_isNull a2 s2) = 0 then xp_b (fr_lookUp a2 14 s2) (fun b4 s5 => xp_b (fx_refuse (if (fr_fitsTask a1 s5) = 0 then (1 : Int32) else (if (s5 14 6) = 0 then (1 : Int32) else (0 : Int32))) (10 : Int32) (fr_codeOf a2 s5) s5) (fun b6 s7 => xl_l ((fd_copy (fg_held a1 s7) 14 s7)) (fun s8 => (some (), s8)))) else xp_b (fx_refuse (if a1 = (2 : Int32) then (0 : Int32) else (1 : Int32)) (10 : Int32) (0 : Int32) s2) (fun b9 s10 => (some (), s10)))))
set_option maxRecDepth 100000 in
set_option maxHeartbeats 4000000 in
theorem mr_takeSegment {l : Launch} {N n u : Nat} {a1 : Int32} {a2 : Int32} {σ : xs_S} (hl : l.stackTraces = false) (hn : 29 ≤ n) (hJ : jx_J σ) : xm_m (xk_k N) l tr_takeSegment [.ref 1, .int a1, .int a2] (n, u, σ, xr_0) (xe_t eu_u n u (fr_takeSegment a1 a2 σ)) := by
  refine xm_of hl ok_r_takeSegment (Nat.le_of_ble_eq_true rfl) ?_
  show xw_w (xk_k N) l tr_takeSegment 0 [some (.ref 1), some (.int a1), some (.int a2)] [] (n, u, σ, xr_0) (xe_t eu_u n u (fr_takeSegment a1 a2 σ))
  unfold fr_takeSegment
  refine xw_aload0 dr_takeSegment_0 ?_
  refine xw_getR dr_takeSegment_1 fl_r_19 (xl_n hn (by decide)) rfl r_1_1 ?_
  refine xw_iload1 dr_takeSegment_4 ?_
  refine xw_cVr dr_takeSegment_5 (lk_r_takeSegment_5 (xl_n hn (by decide)) rfl) ok_g_held (mg_held hl hn) ⟨Nat.le_of_ble_eq_true rfl, Nat.le_of_ble_eq_true rfl⟩ ?_
  refine xw_cW dr_takeSegment_8 (lk_r_takeSegment_8 (xl_n hn he_i) he_k) ok_d_clear (md_clear hl hn he_0 (xl_n hn he_i) he_k) ⟨Nat.le_of_ble_eq_true rfl, Nat.le_of_ble_eq_true rfl⟩ ?_
  refine xw_lw (fun s1 e_s1 => ?_)
  have hJ_s1 : jx_J s1 := by rw [e_s1]; exact (jd_clear hJ)
  refine xw_aload0 dr_takeSegment_11 ?_
  refine xw_getR dr_takeSegment_12 fl_r_23 (xl_n hn (by decide)) rfl r_1_2 ?_
  refine xw_aload0 dr_takeSegment_15 ?_
  refine xw_getR dr_takeSegment_16 fl_r_19 (xl_n hn (by decide)) rfl r_1_1 ?_
  refine xw_cW dr_takeSegment_19 (lk_r_takeSegment_19 (xl_n hn (by decide)) rfl) ok_g_copy (mg_copy_7_3 hl hn) ⟨Nat.le_of_ble_eq_true rfl, Nat.le_of_ble_eq_true rfl⟩ ?_
  refine xw_lw (fun s2 e_s2 => ?_)
  have hJ_s2 : jx_J s2 := by rw [e_s2]; exact (jg_copy_7_3 hJ_s1)
  refine xw_iload2 dr_takeSegment_22 ?_
  refine xw_cVi dr_takeSegment_23 (lk_r_takeSegment_23) ok_r_isNull (mr_isNull hl hn) ⟨Nat.le_of_ble_eq_true rfl, Nat.le_of_ble_eq_true rfl⟩ ?_
  refine xw_if_eq' dr_takeSegment_26 rfl (fun h3 => ?_) (fun h3 => ?_)
  · refine xw_aload0 dr_takeSegment_50 ?_
    refine xw_iload2 dr_takeSegment_51 ?_
    refine xw_aload0 dr_takeSegment_52 ?_
    refine xw_getR dr_takeSegment_53 fl_r_42 (xl_n hn (by decide)) rfl r_1_5 ?_
    refine xw_cTu dr_takeSegment_56 (lk_r_takeSegment_56 (xl_n hn (by decide)) rfl) ok_r_lookUp (mr_lookUp hl hn (by decide) (xl_n hn (by decide)) rfl hJ_s2) ⟨Nat.le_of_ble_eq_true rfl, Nat.le_of_ble_eq_true rfl⟩ rfl (fun b4 s5 h_s5 => ?_)
    have hJ_s5 : jx_J s5 := xj_o (jr_lookUp hJ_s2) h_s5
    refine xw_aload0 dr_takeSegment_59 ?_
    refine xw_getR dr_takeSegment_60 fl_r_10 (xl_n hn (by decide)) rfl r_1_0 ?_
    refine xw_aload0 dr_takeSegment_63 ?_
    refine xw_iload1 dr_takeSegment_64 ?_
    refine xw_cVi dr_takeSegment_65 (lk_r_takeSegment_65 (xl_n hn (by decide)) rfl) ok_r_fitsTask (mr_fitsTask hl hn) ⟨Nat.le_of_ble_eq_true rfl, Nat.le_of_ble_eq_true rfl⟩ ?_
    refine xw_if_eq_mi (J := 86) (a := (1 : Int32)) (b := (if (s5 14 6) = 0 then (1 : Int32) else (0 : Int32))) dr_takeSegment_68 rfl (fun _ E' k' => ?_) (fun _ E' k' => ?_) ?_
    · refine xw_iconst dr_takeSegment_81 ki_1 ?_
      refine xw_goto dr_takeSegment_82 rfl ?_
      exact k'
    · refine xw_aload0 dr_takeSegment_71 ?_
      refine xw_getR dr_takeSegment_72 fl_r_42 (xl_n hn (by decide)) rfl r_1_5 ?_
      refine xw_getI dr_takeSegment_75 fl_r_231 (by decide) (xl_n hn (by decide)) rfl ?_
      refine xw_if_ne_mi (J := 86) (a := (1 : Int32)) (b := (0 : Int32)) dr_takeSegment_78 rfl (fun _ E' k' => ?_) (fun _ E' k' => ?_) ?_
      · refine xw_iconst dr_takeSegment_85 ki_0 ?_
        exact k'
      · refine xw_iconst dr_takeSegment_81 ki_1 ?_
        refine xw_goto dr_takeSegment_82 rfl ?_
        exact k'
      exact k'
    refine xw_bipush dr_takeSegment_86 kb_10 ?_
    refine xw_iload2 dr_takeSegment_88 ?_
    refine xw_cVi dr_takeSegment_89 (lk_r_takeSegment_89) ok_r_codeOf (mr_codeOf hl hn) ⟨Nat.le_of_ble_eq_true rfl, Nat.le_of_ble_eq_true rfl⟩ ?_
    refine xw_cTu dr_takeSegment_92 (lk_r_takeSegment_92 (xl_n hn (by decide)) rfl) ok_x_refuse (mx_refuse hl hn) ⟨Nat.le_of_ble_eq_true rfl, Nat.le_of_ble_eq_true rfl⟩ rfl (fun b6 s7 h_s7 => ?_)
    have hJ_s7 : jx_J s7 := xj_o (jx_refuse hJ_s5) h_s7
    refine xw_aload0 dr_takeSegment_95 ?_
    refine xw_getR dr_takeSegment_96 fl_r_19 (xl_n hn (by decide)) rfl r_1_1 ?_
    refine xw_iload1 dr_takeSegment_99 ?_
    refine xw_cVr dr_takeSegment_100 (lk_r_takeSegment_100 (xl_n hn (by decide)) rfl) ok_g_held (mg_held hl hn) ⟨Nat.le_of_ble_eq_true rfl, Nat.le_of_ble_eq_true rfl⟩ ?_
    refine xw_aload0 dr_takeSegment_103 ?_
    refine xw_getR dr_takeSegment_104 fl_r_42 (xl_n hn (by decide)) rfl r_1_5 ?_
    refine xw_cW dr_takeSegment_107 (lk_r_takeSegment_107 (xl_n hn he_i) he_k) ok_d_copy (md_copy hl hn he_0 (xl_n hn he_i) he_k (by decide) (xl_n hn (by decide)) rfl) ⟨Nat.le_of_ble_eq_true rfl, Nat.le_of_ble_eq_true rfl⟩ ?_
    refine xw_lw (fun s8 e_s8 => ?_)
    have hJ_s8 : jx_J s8 := by rw [e_s8]; exact (jd_copy he_n hJ_s7)
    exact xw_vret dr_takeSegment_110 rfl
  · refine xw_aload0 dr_takeSegment_29 ?_
    refine xw_getR dr_takeSegment_30 fl_r_10 (xl_n hn (by decide)) rfl r_1_0 ?_
    refine xw_iload1 dr_takeSegment_33 ?_
    refine xw_iconst dr_takeSegment_34 ki_2 ?_
    refine xw_icmp_eq_mi (J := 43) (a := (0 : Int32)) (b := (1 : Int32)) dr_takeSegment_35 rfl (fun _ E' k' => ?_) (fun _ E' k' => ?_) ?_
    · refine xw_iconst dr_takeSegment_42 ki_0 ?_
      exact k'
    · refine xw_iconst dr_takeSegment_38 ki_1 ?_
      refine xw_goto dr_takeSegment_39 rfl ?_
      exact k'
    refine xw_bipush dr_takeSegment_43 kb_10 ?_
    refine xw_iconst dr_takeSegment_45 ki_0 ?_
    refine xw_cTu dr_takeSegment_46 (lk_r_takeSegment_46 (xl_n hn (by decide)) rfl) ok_x_refuse (mx_refuse hl hn) ⟨Nat.le_of_ble_eq_true rfl, Nat.le_of_ble_eq_true rfl⟩ rfl (fun b9 s10 h_s10 => ?_)
    have hJ_s10 : jx_J s10 := xj_o (jx_refuse hJ_s2) h_s10
    exact xw_vret dr_takeSegment_49 rfl
theorem jr_takeSegment {a1 : Int32} {a2 : Int32} {σ : xs_S} (hJ : jx_J σ) : jx_J (fr_takeSegment a1 a2 σ).2 := by
  unfold fr_takeSegment
  refine xj_l (fun s1 e_s1 => ?_)
  have hJ_s1 : jx_J s1 := by rw [e_s1]; exact (jd_clear hJ)
  refine xj_l (fun s2 e_s2 => ?_)
  have hJ_s2 : jx_J s2 := by rw [e_s2]; exact (jg_copy_7_3 hJ_s1)
  refine xj_f (fun h3 => ?_) (fun h3 => ?_)
  · refine xj_b (jr_lookUp hJ_s2) (fun b4 s5 h_s5 hJ_s5 => ?_)
    refine xj_b (jx_refuse hJ_s5) (fun b6 s7 h_s7 hJ_s7 => ?_)
    refine xj_l (fun s8 e_s8 => ?_)
    have hJ_s8 : jx_J s8 := by rw [e_s8]; exact (jd_copy he_n hJ_s7)
    exact hJ_s8
  · refine xj_b (jx_refuse hJ_s2) (fun b9 s10 h_s10 hJ_s10 => ?_)
    exact hJ_s10
def fr_switchTask (a1 : Int32) (σ : xs_S) : xp_P Unit := xl_l ((if (if (σ 13 3) = (6 : Int32) then (1 : Int32) else (0 : Int32)) = (if a1 = (2 : Int32) then (1 : Int32) else (0 : Int32)) then (1 : Int32) else (0 : Int32))) (fun v1 => xp_b (fx_refuse (if v1 = 0 then (1 : Int32) else (0 : Int32)) (13 : Int32) (fr_codeOf (σ 13 0) σ) σ) (fun b2 s3 => xp_b (fm_wordAt (((s3 13 1) + (14 : Int32)) + ((2 : Int32) * (0 : Int32))) (0 : Int32) s3) (fun b4 s5 => xl_l ((xu_u s5 16 0 b4)) (fun s6 => xp_b (fm_wordAt (((s6 13 1) + (14 : Int32)) + ((2 : Int32) * (1 : Int32))) (0 : Int32) s6) (fun b7 s8 => xl_l ((xu_u s8 16 1 b7)) (fun s9 => xp_b (fm_wordAt (((s9 13 1) + (14 : Int32)) + ((2 : Int32) * (2 : Int32))) (0 : Int32) s9) (fun b10 s11 => xl_l ((xu_u s11 16 2 b10)) (fun s12 => xp_b (fm_wordAt (((s12 13 1) + (14 : Int32)) + ((2 : Int32) * (3 : Int32))) (0 : Int32) s12) (fun b13 s14 => xl_l ((xu_u s14 16 3 b13)) (fun s15 => xp_b (fm_wordAt (((s15 13 1) + (14 : Int32)) + ((2 : Int32) * (4 : Int32))) (0 : Int32) s15) (fun b16 s17 => xl_l ((xu_u s17 16 4 b16)) (fun s18 => xp_b (fm_wordAt (((s18 13 1) + (14 : Int32)) + ((2 : Int32) * (5 : Int32))) (0 : Int32) s18) (fun b19 s20 => xl_l ((xu_u s20 16 5 b19)) (fun s21 => xp_b (fm_wordAt (((s21 13 1) + (14 : Int32)) + ((2 : Int32) * (6 : Int32))) (0 : Int32) s21) (fun b22 s23 => xl_l ((xu_u s23 16 6 b22)) (fun s24 => xp_b (fm_wordAt (((s24 13 1) + (14 : Int32)) + ((2 : Int32) * (7 : Int32))) (0 : Int32) s24) (fun b25 s26 => xl_l ((xu_u s26 16 7 b25)) (fun s27 => xp_b (fr_saveState a1 s27) (fun b28 s29 => xp_b (fr_markTasks a1 s29) (fun b30 s31 => xl_l ((xu_u s31 3 7 (fr_codeOf (s31 13 0) s31))) (fun s32 => xl_l ((xu_u s32 3 8 (s32 13 1))) (fun s33 => xl_l ((xu_u s33 3 4 (s33 16 0))) (fun s34 => xl_l ((xu_u s34 3 5 (((s34 16 1) &&& (3 : Int32)) ||| (if a1 = (1 : Int32) then (2 : Int32) else (0 : Int32))))) (fun s35 => xl_l ((xu_u s35 3 3 (s35 16 2))) (fun s36 => xl_l ((xu_u s36 3 6 ((s36 16 6) &&& (3 : Int32)))) (fun s37 => xl_l ((xu_u s37 3 9 ((s37 16 7) &&& (31 : Int32)))) (fun s38 => xp_b (fr_takeSegment (0 : Int32) (s38 16 3) s38) (fun b39 s40 => xp_b (fr_takeSegment (1 : Int32) (s40 16 4) s40) (fun b41 s42 => xp_b (fr_takeSegment (2 : Int32) (s42 16 5) s42) (fun b43 s44 => (some (), s44)))))))))))))))))))))))))))))))
set_option maxRecDepth 100000 in
set_option maxHeartbeats 4000000 in
theorem mr_switchTask {l : Launch} {N n u : Nat} {a1 : Int32} {σ : xs_S} (hl : l.stackTraces = false) (hn : 29 ≤ n) (hJ : jx_J σ) : xm_m (xk_k N) l tr_switchTask [.ref 1, .int a1] (n, u, σ, xr_0) (xe_t eu_u n u (fr_switchTask a1 σ)) := by
  refine xm_of hl ok_r_switchTask (Nat.le_of_ble_eq_true rfl) ?_
  show xw_w (xk_k N) l tr_switchTask 0 [some (.ref 1), some (.int a1), none, none] [] (n, u, σ, xr_0) (xe_t eu_u n u (fr_switchTask a1 σ))
  unfold fr_switchTask
  refine xw_aload0 dr_switchTask_0 ?_
  refine xw_getR dr_switchTask_1 fl_r_38 (xl_n hn (by decide)) rfl r_1_4 ?_
  refine xw_getI dr_switchTask_4 fl_r_179 (by decide) (xl_n hn (by decide)) rfl ?_
  refine xw_bipush dr_switchTask_7 kb_6 ?_
  refine xw_icmp_ne_mi (J := 17) (a := (1 : Int32)) (b := (0 : Int32)) dr_switchTask_9 rfl (fun _ E' k' => ?_) (fun _ E' k' => ?_) ?_
  · refine xw_iconst dr_switchTask_16 ki_0 ?_
    exact k'
  · refine xw_iconst dr_switchTask_12 ki_1 ?_
    refine xw_goto dr_switchTask_13 rfl ?_
    exact k'
  refine xw_iload1 dr_switchTask_17 ?_
  refine xw_iconst dr_switchTask_18 ki_2 ?_
  refine xw_icmp_ne_mi (J := 27) (a := (1 : Int32)) (b := (0 : Int32)) dr_switchTask_19 rfl (fun _ E' k' => ?_) (fun _ E' k' => ?_) ?_
  · refine xw_iconst dr_switchTask_26 ki_0 ?_
    exact k'
  · refine xw_iconst dr_switchTask_22 ki_1 ?_
    refine xw_goto dr_switchTask_23 rfl ?_
    exact k'
  refine xw_icmp_ne_mi (J := 35) (a := (1 : Int32)) (b := (0 : Int32)) dr_switchTask_27 rfl (fun _ E' k' => ?_) (fun _ E' k' => ?_) ?_
  · refine xw_iconst dr_switchTask_34 ki_0 ?_
    exact k'
  · refine xw_iconst dr_switchTask_30 ki_1 ?_
    refine xw_goto dr_switchTask_31 rfl ?_
    exact k'
  refine xw_li (fun v1 e_v1 => ?_)
  refine xw_istore2 dr_switchTask_35 (Nat.le_of_ble_eq_true rfl) rfl ?_
  refine xw_aload0 dr_switchTask_36 ?_
  refine xw_getR dr_switchTask_37 fl_r_10 (xl_n hn (by decide)) rfl r_1_0 ?_
  refine xw_iload2 dr_switchTask_40 ?_
  refine xw_if_ne_mi (J := 49) (a := (1 : Int32)) (b := (0 : Int32)) dr_switchTask_41 rfl (fun _ E' k' => ?_) (fun _ E' k' => ?_) ?_
  · refine xw_iconst dr_switchTask_48 ki_0 ?_
    exact k'
  · refine xw_iconst dr_switchTask_44 ki_1 ?_
    refine xw_goto dr_switchTask_45 rfl ?_
    exact k'
  refine xw_bipush dr_switchTask_49 kb_13 ?_
  refine xw_aload0 dr_switchTask_51 ?_
  refine xw_getR dr_switchTask_52 fl_r_38 (xl_n hn (by decide)) rfl r_1_4 ?_
  refine xw_getI dr_switchTask_55 fl_r_142 (by decide) (xl_n hn (by decide)) rfl ?_
  refine xw_cVi dr_switchTask_58 (lk_r_switchTask_58) ok_r_codeOf (mr_codeOf hl hn) ⟨Nat.le_of_ble_eq_true rfl, Nat.le_of_ble_eq_true rfl⟩ ?_
  refine xw_cTu dr_switchTask_61 (lk_r_switchTask_61 (xl_n hn (by decide)) rfl) ok_x_refuse (mx_refuse hl hn) ⟨Nat.le_of_ble_eq_true rfl, Nat.le_of_ble_eq_true rfl⟩ rfl (fun b2 s3 h_s3 => ?_)
  have hJ_s3 : jx_J s3 := xj_o (jx_refuse hJ) h_s3
  refine xw_iconst dr_switchTask_64 ki_0 ?_
  refine xw_istore3 dr_switchTask_65 (Nat.le_of_ble_eq_true rfl) rfl ?_
  refine xw_iload3 dr_switchTask_66 ?_
  refine xw_bipush dr_switchTask_67 kb_8 ?_
  refine xw_icmp_ge_f dr_switchTask_69 rfl (by decide) ?_
  refine xw_aload0 dr_switchTask_72 ?_
  refine xw_getR dr_switchTask_73 fl_r_48 (xl_n hn (by decide)) rfl r_1_7 ?_
  refine xw_iload3 dr_switchTask_76 ?_
  refine xw_aload0 dr_switchTask_77 ?_
  refine xw_getR dr_switchTask_78 fl_r_31 (xl_n hn (by decide)) rfl r_1_3 ?_
  refine xw_aload0 dr_switchTask_81 ?_
  refine xw_getR dr_switchTask_82 fl_r_38 (xl_n hn (by decide)) rfl r_1_4 ?_
  refine xw_getI dr_switchTask_85 fl_r_173 (by decide) (xl_n hn (by decide)) rfl ?_
  refine xw_bipush dr_switchTask_88 kb_14 ?_
  refine xw_iadd dr_switchTask_90 ?_
  refine xw_iconst dr_switchTask_91 ki_2 ?_
  refine xw_iload3 dr_switchTask_92 ?_
  refine xw_imul dr_switchTask_93 ?_
  refine xw_iadd dr_switchTask_94 ?_
  refine xw_iconst dr_switchTask_95 ki_0 ?_
  refine xw_cTi dr_switchTask_96 (lk_r_switchTask_96 (xl_n hn (by decide)) rfl) ok_m_wordAt (mm_wordAt hl hn hJ_s3) ⟨Nat.le_of_ble_eq_true rfl, Nat.le_of_ble_eq_true rfl⟩ rfl (fun b4 s5 h_s5 => ?_)
  have hJ_s5 : jx_J s5 := xj_o (jm_wordAt hJ_s3) h_s5
  refine xw_iast dr_switchTask_99 (by decide) (xl_n hn (by decide)) rfl vc_0_8 cn_0 ?_
  refine xw_lw (fun s6 e_s6 => ?_)
  have hJ_s6 : jx_J s6 := by rw [e_s6]; exact (jx_u hJ_s5 (by decide))
  refine xw_iinc3 dr_switchTask_100 ic_0_1 (Nat.le_of_ble_eq_true rfl) rfl ?_
  refine xw_goto dr_switchTask_103 rfl ?_
  refine xw_iload3 dr_switchTask_66 ?_
  refine xw_bipush dr_switchTask_67 kb_8 ?_
  refine xw_icmp_ge_f dr_switchTask_69 rfl (by decide) ?_
  refine xw_aload0 dr_switchTask_72 ?_
  refine xw_getR dr_switchTask_73 fl_r_48 (xl_n hn (by decide)) rfl r_1_7 ?_
  refine xw_iload3 dr_switchTask_76 ?_
  refine xw_aload0 dr_switchTask_77 ?_
  refine xw_getR dr_switchTask_78 fl_r_31 (xl_n hn (by decide)) rfl r_1_3 ?_
  refine xw_aload0 dr_switchTask_81 ?_
  refine xw_getR dr_switchTask_82 fl_r_38 (xl_n hn (by decide)) rfl r_1_4 ?_
  refine xw_getI dr_switchTask_85 fl_r_173 (by decide) (xl_n hn (by decide)) rfl ?_
  refine xw_bipush dr_switchTask_88 kb_14 ?_
  refine xw_iadd dr_switchTask_90 ?_
  refine xw_iconst dr_switchTask_91 ki_2 ?_
  refine xw_iload3 dr_switchTask_92 ?_
  refine xw_imul dr_switchTask_93 ?_
  refine xw_iadd dr_switchTask_94 ?_
  refine xw_iconst dr_switchTask_95 ki_0 ?_
  refine xw_cTi dr_switchTask_96 (lk_r_switchTask_96 (xl_n hn (by decide)) rfl) ok_m_wordAt (mm_wordAt hl hn hJ_s6) ⟨Nat.le_of_ble_eq_true rfl, Nat.le_of_ble_eq_true rfl⟩ rfl (fun b7 s8 h_s8 => ?_)
  have hJ_s8 : jx_J s8 := xj_o (jm_wordAt hJ_s6) h_s8
  refine xw_iast dr_switchTask_99 (by decide) (xl_n hn (by decide)) rfl vc_1_8 cn_1 ?_
  refine xw_lw (fun s9 e_s9 => ?_)
  have hJ_s9 : jx_J s9 := by rw [e_s9]; exact (jx_u hJ_s8 (by decide))
  refine xw_iinc3 dr_switchTask_100 ic_1_1 (Nat.le_of_ble_eq_true rfl) rfl ?_
  refine xw_goto dr_switchTask_103 rfl ?_
  refine xw_iload3 dr_switchTask_66 ?_
  refine xw_bipush dr_switchTask_67 kb_8 ?_
  refine xw_icmp_ge_f dr_switchTask_69 rfl (by decide) ?_
  refine xw_aload0 dr_switchTask_72 ?_
  refine xw_getR dr_switchTask_73 fl_r_48 (xl_n hn (by decide)) rfl r_1_7 ?_
  refine xw_iload3 dr_switchTask_76 ?_
  refine xw_aload0 dr_switchTask_77 ?_
  refine xw_getR dr_switchTask_78 fl_r_31 (xl_n hn (by decide)) rfl r_1_3 ?_
  refine xw_aload0 dr_switchTask_81 ?_
  refine xw_getR dr_switchTask_82 fl_r_38 (xl_n hn (by decide)) rfl r_1_4 ?_
  refine xw_getI dr_switchTask_85 fl_r_173 (by decide) (xl_n hn (by decide)) rfl ?_
  refine xw_bipush dr_switchTask_88 kb_14 ?_
  refine xw_iadd dr_switchTask_90 ?_
  refine xw_iconst dr_switchTask_91 ki_2 ?_
  refine xw_iload3 dr_switchTask_92 ?_
  refine xw_imul dr_switchTask_93 ?_
  refine xw_iadd dr_switchTask_94 ?_
  refine xw_iconst dr_switchTask_95 ki_0 ?_
  refine xw_cTi dr_switchTask_96 (lk_r_switchTask_96 (xl_n hn (by decide)) rfl) ok_m_wordAt (mm_wordAt hl hn hJ_s9) ⟨Nat.le_of_ble_eq_true rfl, Nat.le_of_ble_eq_true rfl⟩ rfl (fun b10 s11 h_s11 => ?_)
  have hJ_s11 : jx_J s11 := xj_o (jm_wordAt hJ_s9) h_s11
  refine xw_iast dr_switchTask_99 (by decide) (xl_n hn (by decide)) rfl vc_2_8 cn_2 ?_
  refine xw_lw (fun s12 e_s12 => ?_)
  have hJ_s12 : jx_J s12 := by rw [e_s12]; exact (jx_u hJ_s11 (by decide))
  refine xw_iinc3 dr_switchTask_100 ic_2_1 (Nat.le_of_ble_eq_true rfl) rfl ?_
  refine xw_goto dr_switchTask_103 rfl ?_
  refine xw_iload3 dr_switchTask_66 ?_
  refine xw_bipush dr_switchTask_67 kb_8 ?_
  refine xw_icmp_ge_f dr_switchTask_69 rfl (by decide) ?_
  refine xw_aload0 dr_switchTask_72 ?_
  refine xw_getR dr_switchTask_73 fl_r_48 (xl_n hn (by decide)) rfl r_1_7 ?_
  refine xw_iload3 dr_switchTask_76 ?_
  refine xw_aload0 dr_switchTask_77 ?_
  refine xw_getR dr_switchTask_78 fl_r_31 (xl_n hn (by decide)) rfl r_1_3 ?_
  refine xw_aload0 dr_switchTask_81 ?_
  refine xw_getR dr_switchTask_82 fl_r_38 (xl_n hn (by decide)) rfl r_1_4 ?_
  refine xw_getI dr_switchTask_85 fl_r_173 (by decide) (xl_n hn (by decide)) rfl ?_
  refine xw_bipush dr_switchTask_88 kb_14 ?_
  refine xw_iadd dr_switchTask_90 ?_
  refine xw_iconst dr_switchTask_91 ki_2 ?_
  refine xw_iload3 dr_switchTask_92 ?_
  refine xw_imul dr_switchTask_93 ?_
  refine xw_iadd dr_switchTask_94 ?_
  refine xw_iconst dr_switchTask_95 ki_0 ?_
  refine xw_cTi dr_switchTask_96 (lk_r_switchTask_96 (xl_n hn (by decide)) rfl) ok_m_wordAt (mm_wordAt hl hn hJ_s12) ⟨Nat.le_of_ble_eq_true rfl, Nat.le_of_ble_eq_true rfl⟩ rfl (fun b13 s14 h_s14 => ?_)
  have hJ_s14 : jx_J s14 := xj_o (jm_wordAt hJ_s12) h_s14
  refine xw_iast dr_switchTask_99 (by decide) (xl_n hn (by decide)) rfl vc_3_8 cn_3 ?_
  refine xw_lw (fun s15 e_s15 => ?_)
  have hJ_s15 : jx_J s15 := by rw [e_s15]; exact (jx_u hJ_s14 (by decide))
  refine xw_iinc3 dr_switchTask_100 ic_3_1 (Nat.le_of_ble_eq_true rfl) rfl ?_
  refine xw_goto dr_switchTask_103 rfl ?_
  refine xw_iload3 dr_switchTask_66 ?_
  refine xw_bipush dr_switchTask_67 kb_8 ?_
  refine xw_icmp_ge_f dr_switchTask_69 rfl (by decide) ?_
  refine xw_aload0 dr_switchTask_72 ?_
  refine xw_getR dr_switchTask_73 fl_r_48 (xl_n hn (by decide)) rfl r_1_7 ?_
  refine xw_iload3 dr_switchTask_76 ?_
  refine xw_aload0 dr_switchTask_77 ?_
  refine xw_getR dr_switchTask_78 fl_r_31 (xl_n hn (by decide)) rfl r_1_3 ?_
  refine xw_aload0 dr_switchTask_81 ?_
  refine xw_getR dr_switchTask_82 fl_r_38 (xl_n hn (by decide)) rfl r_1_4 ?_
  refine xw_getI dr_switchTask_85 fl_r_173 (by decide) (xl_n hn (by decide)) rfl ?_
  refine xw_bipush dr_switchTask_88 kb_14 ?_
  refine xw_iadd dr_switchTask_90 ?_
  refine xw_iconst dr_switchTask_91 ki_2 ?_
  refine xw_iload3 dr_switchTask_92 ?_
  refine xw_imul dr_switchTask_93 ?_
  refine xw_iadd dr_switchTask_94 ?_
  refine xw_iconst dr_switchTask_95 ki_0 ?_
  refine xw_cTi dr_switchTask_96 (lk_r_switchTask_96 (xl_n hn (by decide)) rfl) ok_m_wordAt (mm_wordAt hl hn hJ_s15) ⟨Nat.le_of_ble_eq_true rfl, Nat.le_of_ble_eq_true rfl⟩ rfl (fun b16 s17 h_s17 => ?_)
  have hJ_s17 : jx_J s17 := xj_o (jm_wordAt hJ_s15) h_s17
  refine xw_iast dr_switchTask_99 (by decide) (xl_n hn (by decide)) rfl vc_4_8 cn_4 ?_
  refine xw_lw (fun s18 e_s18 => ?_)
  have hJ_s18 : jx_J s18 := by rw [e_s18]; exact (jx_u hJ_s17 (by decide))
  refine xw_iinc3 dr_switchTask_100 ic_4_1 (Nat.le_of_ble_eq_true rfl) rfl ?_
  refine xw_goto dr_switchTask_103 rfl ?_
  refine xw_iload3 dr_switchTask_66 ?_
  refine xw_bipush dr_switchTask_67 kb_8 ?_
  refine xw_icmp_ge_f dr_switchTask_69 rfl (by decide) ?_
  refine xw_aload0 dr_switchTask_72 ?_
  refine xw_getR dr_switchTask_73 fl_r_48 (xl_n hn (by decide)) rfl r_1_7 ?_
  refine xw_iload3 dr_switchTask_76 ?_
  refine xw_aload0 dr_switchTask_77 ?_
  refine xw_getR dr_switchTask_78 fl_r_31 (xl_n hn (by decide)) rfl r_1_3 ?_
  refine xw_aload0 dr_switchTask_81 ?_
  refine xw_getR dr_switchTask_82 fl_r_38 (xl_n hn (by decide)) rfl r_1_4 ?_
  refine xw_getI dr_switchTask_85 fl_r_173 (by decide) (xl_n hn (by decide)) rfl ?_
  refine xw_bipush dr_switchTask_88 kb_14 ?_
  refine xw_iadd dr_switchTask_90 ?_
  refine xw_iconst dr_switchTask_91 ki_2 ?_
  refine xw_iload3 dr_switchTask_92 ?_
  refine xw_imul dr_switchTask_93 ?_
  refine xw_iadd dr_switchTask_94 ?_
  refine xw_iconst dr_switchTask_95 ki_0 ?_
  refine xw_cTi dr_switchTask_96 (lk_r_switchTask_96 (xl_n hn (by decide)) rfl) ok_m_wordAt (mm_wordAt hl hn hJ_s18) ⟨Nat.le_of_ble_eq_true rfl, Nat.le_of_ble_eq_true rfl⟩ rfl (fun b19 s20 h_s20 => ?_)
  have hJ_s20 : jx_J s20 := xj_o (jm_wordAt hJ_s18) h_s20
  refine xw_iast dr_switchTask_99 (by decide) (xl_n hn (by decide)) rfl vc_5_8 cn_5 ?_
  refine xw_lw (fun s21 e_s21 => ?_)
  have hJ_s21 : jx_J s21 := by rw [e_s21]; exact (jx_u hJ_s20 (by decide))
  refine xw_iinc3 dr_switchTask_100 ic_5_1 (Nat.le_of_ble_eq_true rfl) rfl ?_
  refine xw_goto dr_switchTask_103 rfl ?_
  refine xw_iload3 dr_switchTask_66 ?_
  refine xw_bipush dr_switchTask_67 kb_8 ?_
  refine xw_icmp_ge_f dr_switchTask_69 rfl (by decide) ?_
  refine xw_aload0 dr_switchTask_72 ?_
  refine xw_getR dr_switchTask_73 fl_r_48 (xl_n hn (by decide)) rfl r_1_7 ?_
  refine xw_iload3 dr_switchTask_76 ?_
  refine xw_aload0 dr_switchTask_77 ?_
  refine xw_getR dr_switchTask_78 fl_r_31 (xl_n hn (by decide)) rfl r_1_3 ?_
  refine xw_aload0 dr_switchTask_81 ?_
  refine xw_getR dr_switchTask_82 fl_r_38 (xl_n hn (by decide)) rfl r_1_4 ?_
  refine xw_getI dr_switchTask_85 fl_r_173 (by decide) (xl_n hn (by decide)) rfl ?_
  refine xw_bipush dr_switchTask_88 kb_14 ?_
  refine xw_iadd dr_switchTask_90 ?_
  refine xw_iconst dr_switchTask_91 ki_2 ?_
  refine xw_iload3 dr_switchTask_92 ?_
  refine xw_imul dr_switchTask_93 ?_
  refine xw_iadd dr_switchTask_94 ?_
  refine xw_iconst dr_switchTask_95 ki_0 ?_
  refine xw_cTi dr_switchTask_96 (lk_r_switchTask_96 (xl_n hn (by decide)) rfl) ok_m_wordAt (mm_wordAt hl hn hJ_s21) ⟨Nat.le_of_ble_eq_true rfl, Nat.le_of_ble_eq_true rfl⟩ rfl (fun b22 s23 h_s23 => ?_)
  have hJ_s23 : jx_J s23 := xj_o (jm_wordAt hJ_s21) h_s23
  refine xw_iast dr_switchTask_99 (by decide) (xl_n hn (by decide)) rfl vc_6_8 cn_6 ?_
  refine xw_lw (fun s24 e_s24 => ?_)
  have hJ_s24 : jx_J s24 := by rw [e_s24]; exact (jx_u hJ_s23 (by decide))
  refine xw_iinc3 dr_switchTask_100 ic_6_1 (Nat.le_of_ble_eq_true rfl) rfl ?_
  refine xw_goto dr_switchTask_103 rfl ?_
  refine xw_iload3 dr_switchTask_66 ?_
  refine xw_bipush dr_switchTask_67 kb_8 ?_
  refine xw_icmp_ge_f dr_switchTask_69 rfl (by decide) ?_
  refine xw_aload0 dr_switchTask_72 ?_
  refine xw_getR dr_switchTask_73 fl_r_48 (xl_n hn (by decide)) rfl r_1_7 ?_
  refine xw_iload3 dr_switchTask_76 ?_
  refine xw_aload0 dr_switchTask_77 ?_
  refine xw_getR dr_switchTask_78 fl_r_31 (xl_n hn (by decide)) rfl r_1_3 ?_
  refine xw_aload0 dr_switchTask_81 ?_
  refine xw_getR dr_switchTask_82 fl_r_38 (xl_n hn (by decide)) rfl r_1_4 ?_
  refine xw_getI dr_switchTask_85 fl_r_173 (by decide) (xl_n hn (by decide)) rfl ?_
  refine xw_bipush dr_switchTask_88 kb_14 ?_
  refine xw_iadd dr_switchTask_90 ?_
  refine xw_iconst dr_switchTask_91 ki_2 ?_
  refine xw_iload3 dr_switchTask_92 ?_
  refine xw_imul dr_switchTask_93 ?_
  refine xw_iadd dr_switchTask_94 ?_
  refine xw_iconst dr_switchTask_95 ki_0 ?_
  refine xw_cTi dr_switchTask_96 (lk_r_switchTask_96 (xl_n hn (by decide)) rfl) ok_m_wordAt (mm_wordAt hl hn hJ_s24) ⟨Nat.le_of_ble_eq_true rfl, Nat.le_of_ble_eq_true rfl⟩ rfl (fun b25 s26 h_s26 => ?_)
  have hJ_s26 : jx_J s26 := xj_o (jm_wordAt hJ_s24) h_s26
  refine xw_iast dr_switchTask_99 (by decide) (xl_n hn (by decide)) rfl vc_7_8 cn_7 ?_
  refine xw_lw (fun s27 e_s27 => ?_)
  have hJ_s27 : jx_J s27 := by rw [e_s27]; exact (jx_u hJ_s26 (by decide))
  refine xw_iinc3 dr_switchTask_100 ic_7_1 (Nat.le_of_ble_eq_true rfl) rfl ?_
  refine xw_goto dr_switchTask_103 rfl ?_
  refine xw_iload3 dr_switchTask_66 ?_
  refine xw_bipush dr_switchTask_67 kb_8 ?_
  refine xw_icmp_ge_t dr_switchTask_69 rfl (by decide) ?_
  refine xw_aload0 dr_switchTask_106 ?_
  refine xw_iload1 dr_switchTask_107 ?_
  refine xw_cTu dr_switchTask_108 (lk_r_switchTask_108 (xl_n hn (by decide)) rfl) ok_r_saveState (mr_saveState hl hn hJ_s27) ⟨Nat.le_of_ble_eq_true rfl, Nat.le_of_ble_eq_true rfl⟩ rfl (fun b28 s29 h_s29 => ?_)
  have hJ_s29 : jx_J s29 := xj_o (jr_saveState hJ_s27) h_s29
  refine xw_aload0 dr_switchTask_111 ?_
  refine xw_iload1 dr_switchTask_112 ?_
  refine xw_cTu dr_switchTask_113 (lk_r_switchTask_113 (xl_n hn (by decide)) rfl) ok_r_markTasks (mr_markTasks hl hn hJ_s29) ⟨Nat.le_of_ble_eq_true rfl, Nat.le_of_ble_eq_true rfl⟩ rfl (fun b30 s31 h_s31 => ?_)
  have hJ_s31 : jx_J s31 := xj_o (jr_markTasks hJ_s29) h_s31
  refine xw_aload0 dr_switchTask_116 ?_
  refine xw_getR dr_switchTask_117 fl_r_19 (xl_n hn (by decide)) rfl r_1_1 ?_
  refine xw_aload0 dr_switchTask_120 ?_
  refine xw_getR dr_switchTask_121 fl_r_38 (xl_n hn (by decide)) rfl r_1_4 ?_
  refine xw_getI dr_switchTask_124 fl_r_142 (by decide) (xl_n hn (by decide)) rfl ?_
  refine xw_cVi dr_switchTask_127 (lk_r_switchTask_127) ok_r_codeOf (mr_codeOf hl hn) ⟨Nat.le_of_ble_eq_true rfl, Nat.le_of_ble_eq_true rfl⟩ ?_
  refine xw_putI dr_switchTask_130 fl_r_160 nf_3_7 (by decide) (xl_n hn (by decide)) rfl ?_
  refine xw_lw (fun s32 e_s32 => ?_)
  have hJ_s32 : jx_J s32 := by rw [e_s32]; exact (jx_u hJ_s31 (by decide))
  refine xw_aload0 dr_switchTask_133 ?_
  refine xw_getR dr_switchTask_134 fl_r_19 (xl_n hn (by decide)) rfl r_1_1 ?_
  refine xw_aload0 dr_switchTask_137 ?_
  refine xw_getR dr_switchTask_138 fl_r_38 (xl_n hn (by decide)) rfl r_1_4 ?_
  refine xw_getI dr_switchTask_141 fl_r_173 (by decide) (xl_n hn (by decide)) rfl ?_
  refine xw_putI dr_switchTask_144 fl_r_163 nf_3_8 (by decide) (xl_n hn (by decide)) rfl ?_
  refine xw_lw (fun s33 e_s33 => ?_)
  have hJ_s33 : jx_J s33 := by rw [e_s33]; exact (jx_u hJ_s32 (by decide))
  refine xw_aload0 dr_switchTask_147 ?_
  refine xw_getR dr_switchTask_148 fl_r_19 (xl_n hn (by decide)) rfl r_1_1 ?_
  refine xw_aload0 dr_switchTask_151 ?_
  refine xw_getR dr_switchTask_152 fl_r_48 (xl_n hn (by decide)) rfl r_1_7 ?_
  refine xw_iconst dr_switchTask_155 ki_0 ?_
  refine xw_iald dr_switchTask_156 (xl_n hn (by decide)) rfl vc_0_8 cn_0 ?_
  refine xw_putI dr_switchTask_157 fl_r_154 nf_3_4 (by decide) (xl_n hn (by decide)) rfl ?_
  refine xw_lw (fun s34 e_s34 => ?_)
  have hJ_s34 : jx_J s34 := by rw [e_s34]; exact (jx_u hJ_s33 (by decide))
  refine xw_aload0 dr_switchTask_160 ?_
  refine xw_getR dr_switchTask_161 fl_r_19 (xl_n hn (by decide)) rfl r_1_1 ?_
  refine xw_aload0 dr_switchTask_164 ?_
  refine xw_getR dr_switchTask_165 fl_r_48 (xl_n hn (by decide)) rfl r_1_7 ?_
  refine xw_iconst dr_switchTask_168 ki_1 ?_
  refine xw_iald dr_switchTask_169 (xl_n hn (by decide)) rfl vc_1_8 cn_1 ?_
  refine xw_iconst dr_switchTask_170 ki_3 ?_
  refine xw_iand dr_switchTask_171 ?_
  refine xw_iload1 dr_switchTask_172 ?_
  refine xw_iconst dr_switchTask_173 ki_1 ?_
  refine xw_icmp_ne_mi (J := 182) (a := (2 : Int32)) (b := (0 : Int32)) dr_switchTask_174 rfl (fun _ E' k' => ?_) (fun _ E' k' => ?_) ?_
  · refine xw_iconst dr_switchTask_181 ki_0 ?_
    exact k'
  · refine xw_iconst dr_switchTask_177 ki_2 ?_
    refine xw_goto dr_switchTask_178 rfl ?_
    exact k'
  refine xw_ior dr_switchTask_182 ?_
  refine xw_putI dr_switchTask_183 fl_r_133 nf_3_5 (by decide) (xl_n hn (by decide)) rfl ?_
  refine xw_lw (fun s35 e_s35 => ?_)
  have hJ_s35 : jx_J s35 := by rw [e_s35]; exact (jx_u hJ_s34 (by decide))
  refine xw_aload0 dr_switchTask_186 ?_
  refine xw_getR dr_switchTask_187 fl_r_19 (xl_n hn (by decide)) rfl r_1_1 ?_
  refine xw_aload0 dr_switchTask_190 ?_
  refine xw_getR dr_switchTask_191 fl_r_48 (xl_n hn (by decide)) rfl r_1_7 ?_
  refine xw_iconst dr_switchTask_194 ki_2 ?_
  refine xw_iald dr_switchTask_195 (xl_n hn (by decide)) rfl vc_2_8 cn_2 ?_
  refine xw_putI dr_switchTask_196 fl_r_151 nf_3_3 (by decide) (xl_n hn (by decide)) rfl ?_
  refine xw_lw (fun s36 e_s36 => ?_)
  have hJ_s36 : jx_J s36 := by rw [e_s36]; exact (jx_u hJ_s35 (by decide))
  refine xw_aload0 dr_switchTask_199 ?_
  refine xw_getR dr_switchTask_200 fl_r_19 (xl_n hn (by decide)) rfl r_1_1 ?_
  refine xw_aload0 dr_switchTask_203 ?_
  refine xw_getR dr_switchTask_204 fl_r_48 (xl_n hn (by decide)) rfl r_1_7 ?_
  refine xw_bipush dr_switchTask_207 kb_6 ?_
  refine xw_iald dr_switchTask_209 (xl_n hn (by decide)) rfl vc_6_8 cn_6 ?_
  refine xw_iconst dr_switchTask_210 ki_3 ?_
  refine xw_iand dr_switchTask_211 ?_
  refine xw_putI dr_switchTask_212 fl_r_157 nf_3_6 (by decide) (xl_n hn (by decide)) rfl ?_
  refine xw_lw (fun s37 e_s37 => ?_)
  have hJ_s37 : jx_J s37 := by rw [e_s37]; exact (jx_u hJ_s36 (by decide))
  refine xw_aload0 dr_switchTask_215 ?_
  refine xw_getR dr_switchTask_216 fl_r_19 (xl_n hn (by decide)) rfl r_1_1 ?_
  refine xw_aload0 dr_switchTask_219 ?_
  refine xw_getR dr_switchTask_220 fl_r_48 (xl_n hn (by decide)) rfl r_1_7 ?_
  refine xw_bipush dr_switchTask_223 kb_7 ?_
  refine xw_iald dr_switchTask_225 (xl_n hn (by decide)) rfl vc_7_8 cn_7 ?_
  refine xw_bipush dr_switchTask_226 kb_31 ?_
  refine xw_iand dr_switchTask_228 ?_
  refine xw_putI dr_switchTask_229 fl_r_77 nf_3_9 (by decide) (xl_n hn (by decide)) rfl ?_
  refine xw_lw (fun s38 e_s38 => ?_)
  have hJ_s38 : jx_J s38 := by rw [e_s38]; exact (jx_p hJ_s37)
  refine xw_aload0 dr_switchTask_232 ?_
  refine xw_iconst dr_switchTask_233 ki_0 ?_
  refine xw_aload0 dr_switchTask_234 ?_
  refine xw_getR dr_switchTask_235 fl_r_48 (xl_n hn (by decide)) rfl r_1_7 ?_
  refine xw_iconst dr_switchTask_238 ki_3 ?_
  refine xw_iald dr_switchTask_239 (xl_n hn (by decide)) rfl vc_3_8 cn_3 ?_
  refine xw_cTu dr_switchTask_240 (lk_r_switchTask_240 (xl_n hn (by decide)) rfl) ok_r_takeSegment (mr_takeSegment hl hn hJ_s38) ⟨Nat.le_of_ble_eq_true rfl, Nat.le_of_ble_eq_true rfl⟩ rfl (fun b39 s40 h_s40 => ?_)
  have hJ_s40 : jx_J s40 := xj_o (jr_takeSegment hJ_s38) h_s40
  refine xw_aload0 dr_switchTask_243 ?_
  refine xw_iconst dr_switchTask_244 ki_1 ?_
  refine xw_aload0 dr_switchTask_245 ?_
  refine xw_getR dr_switchTask_246 fl_r_48 (xl_n hn (by decide)) rfl r_1_7 ?_
  refine xw_iconst dr_switchTask_249 ki_4 ?_
  refine xw_iald dr_switchTask_250 (xl_n hn (by decide)) rfl vc_4_8 cn_4 ?_
  refine xw_cTu dr_switchTask_251 (lk_r_switchTask_251 (xl_n hn (by decide)) rfl) ok_r_takeSegment (mr_takeSegment hl hn hJ_s40) ⟨Nat.le_of_ble_eq_true rfl, Nat.le_of_ble_eq_true rfl⟩ rfl (fun b41 s42 h_s42 => ?_)
  have hJ_s42 : jx_J s42 := xj_o (jr_takeSegment hJ_s40) h_s42
  refine xw_aload0 dr_switchTask_254 ?_
  refine xw_iconst dr_switchTask_255 ki_2 ?_
  refine xw_aload0 dr_switchTask_256 ?_
  refine xw_getR dr_switchTask_257 fl_r_48 (xl_n hn (by decide)) rfl r_1_7 ?_
  refine xw_iconst dr_switchTask_260 ki_5 ?_
  refine xw_iald dr_switchTask_261 (xl_n hn (by decide)) rfl vc_5_8 cn_5 ?_
  refine xw_cTu dr_switchTask_262 (lk_r_switchTask_262 (xl_n hn (by decide)) rfl) ok_r_takeSegment (mr_takeSegment hl hn hJ_s42) ⟨Nat.le_of_ble_eq_true rfl, Nat.le_of_ble_eq_true rfl⟩ rfl (fun b43 s44 h_s44 => ?_)
  have hJ_s44 : jx_J s44 := xj_o (jr_takeSegment hJ_s42) h_s44
  exact xw_vret dr_switchTask_265 rfl
theorem jr_switchTask {a1 : Int32} {σ : xs_S} (hJ : jx_J σ) : jx_J (fr_switchTask a1 σ).2 := by
  unfold fr_switchTask
  refine xj_l (fun v1 e_v1 => ?_)
  refine xj_b (jx_refuse hJ) (fun b2 s3 h_s3 hJ_s3 => ?_)
  refine xj_b (jm_wordAt hJ_s3) (fun b4 s5 h_s5 hJ_s5 => ?_)
  refine xj_l (fun s6 e_s6 => ?_)
  have hJ_s6 : jx_J s6 := by rw [e_s6]; exact (jx_u hJ_s5 (by decide))
  refine xj_b (jm_wordAt hJ_s6) (fun b7 s8 h_s8 hJ_s8 => ?_)
  refine xj_l (fun s9 e_s9 => ?_)
  have hJ_s9 : jx_J s9 := by rw [e_s9]; exact (jx_u hJ_s8 (by decide))
  refine xj_b (jm_wordAt hJ_s9) (fun b10 s11 h_s11 hJ_s11 => ?_)
  refine xj_l (fun s12 e_s12 => ?_)
  have hJ_s12 : jx_J s12 := by rw [e_s12]; exact (jx_u hJ_s11 (by decide))
  refine xj_b (jm_wordAt hJ_s12) (fun b13 s14 h_s14 hJ_s14 => ?_)
  refine xj_l (fun s15 e_s15 => ?_)
  have hJ_s15 : jx_J s15 := by rw [e_s15]; exact (jx_u hJ_s14 (by decide))
  refine xj_b (jm_wordAt hJ_s15) (fun b16 s17 h_s17 hJ_s17 => ?_)
  refine xj_l (fun s18 e_s18 => ?_)
  have hJ_s18 : jx_J s18 := by rw [e_s18]; exact (jx_u hJ_s17 (by decide))
  refine xj_b (jm_wordAt hJ_s18) (fun b19 s20 h_s20 hJ_s20 => ?_)
  refine xj_l (fun s21 e_s21 => ?_)
  have hJ_s21 : jx_J s21 := by rw [e_s21]; exact (jx_u hJ_s20 (by decide))
  refine xj_b (jm_wordAt hJ_s21) (fun b22 s23 h_s23 hJ_s23 => ?_)
  refine xj_l (fun s24 e_s24 => ?_)
  have hJ_s24 : jx_J s24 := by rw [e_s24]; exact (jx_u hJ_s23 (by decide))
  refine xj_b (jm_wordAt hJ_s24) (fun b25 s26 h_s26 hJ_s26 => ?_)
  refine xj_l (fun s27 e_s27 => ?_)
  have hJ_s27 : jx_J s27 := by rw [e_s27]; exact (jx_u hJ_s26 (by decide))
  refine xj_b (jr_saveState hJ_s27) (fun b28 s29 h_s29 hJ_s29 => ?_)
  refine xj_b (jr_markTasks hJ_s29) (fun b30 s31 h_s31 hJ_s31 => ?_)
  refine xj_l (fun s32 e_s32 => ?_)
  have hJ_s32 : jx_J s32 := by rw [e_s32]; exact (jx_u hJ_s31 (by decide))
  refine xj_l (fun s33 e_s33 => ?_)
  have hJ_s33 : jx_J s33 := by rw [e_s33]; exact (jx_u hJ_s32 (by decide))
  refine xj_l (fun s34 e_s34 => ?_)
  have hJ_s34 : jx_J s34 := by rw [e_s34]; exact (jx_u hJ_s33 (by decide))
  refine xj_l (fun s35 e_s35 => ?_)
  have hJ_s35 : jx_J s35 := by rw [e_s35]; exact (jx_u hJ_s34 (by decide))
  refine xj_l (fun s36 e_s36 => ?_)
  have hJ_s36 : jx_J s36 := by rw [e_s36]; exact (jx_u hJ_s35 (by decide))
  refine xj_l (fun s37 e_s37 => ?_)
  have hJ_s37 : jx_J s37 := by rw [e_s37]; exact (jx_u hJ_s36 (by decide))
  refine xj_l (fun s38 e_s38 => ?_)
  have hJ_s38 : jx_J s38 := by rw [e_s38]; exact (jx_p hJ_s37)
  refine xj_b (jr_takeSegment hJ_s38) (fun b39 s40 h_s40 hJ_s40 => ?_)
  refine xj_b (jr_takeSegment hJ_s40) (fun b41 s42 h_s42 hJ_s42 => ?_)
  refine xj_b (jr_takeSegment hJ_s42) (fun b43 s44 h_s44 hJ_s44 => ?_)
  exact hJ_s44
