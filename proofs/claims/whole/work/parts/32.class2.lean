def fg_held (a1 : Int32) (σ : xs_S) : Nat := (if a1 = (0 : Int32) then 4 else (if a1 = (1 : Int32) then 5 else 6))
set_option maxRecDepth 100000 in
set_option maxHeartbeats 4000000 in
theorem mg_held {l : Launch} {N n u : Nat} {a1 : Int32} {σ : xs_S} (hl : l.stackTraces = false) (hn : 29 ≤ n) : xm_m (xk_k N) l tg_held [.ref 3, .int a1] (n, u, σ, xr_0) (xe_v er_r n u σ (fg_held a1 σ)) := by
  refine xm_of hl ok_g_held (Nat.le_of_ble_eq_true rfl) ?_
  show xw_w (xk_k N) l tg_held 0 [some (.ref 3), some (.int a1)] [] (n, u, σ, xr_0) (xe_v er_r n u σ (fg_held a1 σ))
  unfold fg_held
  refine xw_iload1 dg_held_0 ?_
  refine xw_sp (fun h1 => ?_) (fun h1 => ?_)
  · refine xw_lsw (off := 27) dg_held_1 (by decide) (by rw [h1]; decide) rfl ?_
    refine xw_aload0 dg_held_28 ?_
    refine xw_getR dg_held_29 fl_g_12 (xl_n hn (by decide)) rfl r_3_0 ?_
    exact xw_aret dg_held_32 rfl
  · refine xw_sp (fun h2 => ?_) (fun h2 => ?_)
    · refine xw_lsw (off := 32) dg_held_1 (by decide) (by rw [h2]; decide) rfl ?_
      refine xw_aload0 dg_held_33 ?_
      refine xw_getR dg_held_34 fl_g_18 (xl_n hn (by decide)) rfl r_3_1 ?_
      exact xw_aret dg_held_37 rfl
    · refine xw_lsw (off := 37) dg_held_1 (by decide) (by show Op.lookupswitch.offset [(0, 27), (1, 32)] 37 (a1).toInt = 37; rw [lv_osw (a := 0) h1 (by decide), lv_osw (a := 1) h2 (by decide)]; rfl) rfl ?_
      refine xw_aload0 dg_held_38 ?_
      refine xw_getR dg_held_39 fl_g_21 (xl_n hn (by decide)) rfl r_3_2 ?_
      exact xw_aret dg_held_42 rfl
theorem he_c {a : Int32} {σ : xs_S} : fg_held a σ = 4 ∨ fg_held a σ = 5 ∨ fg_held a σ = 6 := by
  unfold fg_held
  split
  · exact Or.inl rfl
  · split
    · exact Or.inr (Or.inl rfl)
    · exact Or.inr (Or.inr rfl)
theorem he_i {a : Int32} {σ : xs_S} : fg_held a σ < 29 := by rcases he_c (a := a) (σ := σ) with h | h | h <;> rw [h] <;> decide
theorem he_0 {a : Int32} {σ : xs_S} : 0 < fg_held a σ := by rcases he_c (a := a) (σ := σ) with h | h | h <;> rw [h] <;> decide
theorem he_k {N : Nat} {a : Int32} {σ : xs_S} : xk_k N (fg_held a σ) = (0, 0) := by rcases he_c (a := a) (σ := σ) with h | h | h <;> rw [h] <;> rfl
theorem he_n {a : Int32} {σ : xs_S} : 13 ≠ fg_held a σ := by rcases he_c (a := a) (σ := σ) with h | h | h <;> rw [h] <;> decide
def fr_checkAccess (a1 : Int32) (a2 : Int32) (σ : xs_S) : xp_P Unit := xl_l ((if (fr_isNull (σ (fg_held a1 σ) 0) σ) = 0 then (if (a2 + (1 : Int32)) ≤ (σ (fg_held a1 σ) 2) then (0 : Int32) else (1 : Int32)) else (1 : Int32))) (fun v1 => xp_b (fx_refuse v1 (if a1 = (1 : Int32) then (12 : Int32) else (13 : Int32)) (0 : Int32) σ) (fun b2 s3 => (some (), s3)))
set_option maxRecDepth 100000 in
set_option maxHeartbeats 4000000 in
theorem mr_checkAccess {l : Launch} {N n u : Nat} {a1 : Int32} {a2 : Int32} {σ : xs_S} (hl : l.stackTraces = false) (hn : 29 ≤ n) (hJ : jx_J σ) : xm_m (xk_k N) l tr_checkAccess [.ref 1, .int a1, .int a2] (n, u, σ, xr_0) (xe_t eu_u n u (fr_checkAccess a1 a2 σ)) := by
  refine xm_of hl ok_r_checkAccess (Nat.le_of_ble_eq_true rfl) ?_
  show xw_w (xk_k N) l tr_checkAccess 0 [some (.ref 1), some (.int a1), some (.int a2), none, none] [] (n, u, σ, xr_0) (xe_t eu_u n u (fr_checkAccess a1 a2 σ))
  unfold fr_checkAccess
  refine xw_aload0 dr_checkAccess_0 ?_
  refine xw_getR dr_checkAccess_1 fl_r_19 (xl_n hn (by decide)) rfl r_1_1 ?_
  refine xw_iload1 dr_checkAccess_4 ?_
  refine xw_cVr dr_checkAccess_5 (lk_r_checkAccess_5 (xl_n hn (by decide)) rfl) ok_g_held (mg_held hl hn) ⟨Nat.le_of_ble_eq_true rfl, Nat.le_of_ble_eq_true rfl⟩ ?_
  refine xw_astore3 dr_checkAccess_8 (Nat.le_of_ble_eq_true rfl) rfl ?_
  refine xw_aload3 dr_checkAccess_9 ?_
  refine xw_getI dr_checkAccess_10 fl_r_142 (by decide) (xl_n hn he_i) he_k ?_
  refine xw_cVi dr_checkAccess_13 (lk_r_checkAccess_13) ok_r_isNull (mr_isNull hl hn) ⟨Nat.le_of_ble_eq_true rfl, Nat.le_of_ble_eq_true rfl⟩ ?_
  refine xw_if_ne_mi (J := 34) (a := (if (a2 + (1 : Int32)) ≤ (σ (fg_held a1 σ) 2) then (0 : Int32) else (1 : Int32))) (b := (1 : Int32)) dr_checkAccess_16 rfl (fun _ E' k' => ?_) (fun _ E' k' => ?_) ?_
  · refine xw_iconst dr_checkAccess_29 ki_1 ?_
    refine xw_goto dr_checkAccess_30 rfl ?_
    exact k'
  · refine xw_iload2 dr_checkAccess_19 ?_
    refine xw_iconst dr_checkAccess_20 ki_1 ?_
    refine xw_iadd dr_checkAccess_21 ?_
    refine xw_aload3 dr_checkAccess_22 ?_
    refine xw_getI dr_checkAccess_23 fl_r_176 (by decide) (xl_n hn he_i) he_k ?_
    refine xw_icmp_le_mi (J := 34) (a := (0 : Int32)) (b := (1 : Int32)) dr_checkAccess_26 rfl (fun _ E' k' => ?_) (fun _ E' k' => ?_) ?_
    · refine xw_iconst dr_checkAccess_33 ki_0 ?_
      exact k'
    · refine xw_iconst dr_checkAccess_29 ki_1 ?_
      refine xw_goto dr_checkAccess_30 rfl ?_
      exact k'
    exact k'
  refine xw_li (fun v1 e_v1 => ?_)
  refine xw_istore4 dr_checkAccess_34 (Nat.le_of_ble_eq_true rfl) rfl ?_
  refine xw_aload0 dr_checkAccess_36 ?_
  refine xw_getR dr_checkAccess_37 fl_r_10 (xl_n hn (by decide)) rfl r_1_0 ?_
  refine xw_iload4 dr_checkAccess_40 ?_
  refine xw_iload1 dr_checkAccess_42 ?_
  refine xw_iconst dr_checkAccess_43 ki_1 ?_
  refine xw_icmp_ne_mi (J := 54) (a := (12 : Int32)) (b := (13 : Int32)) dr_checkAccess_44 rfl (fun _ E' k' => ?_) (fun _ E' k' => ?_) ?_
  · refine xw_bipush dr_checkAccess_52 kb_13 ?_
    exact k'
  · refine xw_bipush dr_checkAccess_47 kb_12 ?_
    refine xw_goto dr_checkAccess_49 rfl ?_
    exact k'
  refine xw_iconst dr_checkAccess_54 ki_0 ?_
  refine xw_cTu dr_checkAccess_55 (lk_r_checkAccess_55 (xl_n hn (by decide)) rfl) ok_x_refuse (mx_refuse hl hn) ⟨Nat.le_of_ble_eq_true rfl, Nat.le_of_ble_eq_true rfl⟩ rfl (fun b2 s3 h_s3 => ?_)
  have hJ_s3 : jx_J s3 := xj_o (jx_refuse hJ) h_s3
  exact xw_vret dr_checkAccess_58 rfl
theorem jr_checkAccess {a1 : Int32} {a2 : Int32} {σ : xs_S} (hJ : jx_J σ) : jx_J (fr_checkAccess a1 a2 σ).2 := by
  unfold fr_checkAccess
  refine xj_l (fun v1 e_v1 => ?_)
  refine xj_b (jx_refuse hJ) (fun b2 s3 h_s3 hJ_s3 => ?_)
  exact hJ_s3
def fr_wordIn (a1 : Int32) (a2 : Int32) (σ : xs_S) : xp_P Int32 := xp_b (fr_checkAccess a1 a2 σ) (fun b1 s2 => xp_b (fm_wordAt ((s2 (fg_held a1 s2) 1) + a2) (s2 3 6) s2) (fun b3 s4 => (some b3, s4)))
set_option maxRecDepth 100000 in
set_option maxHeartbeats 4000000 in
theorem mr_wordIn {l : Launch} {N n u : Nat} {a1 : Int32} {a2 : Int32} {σ : xs_S} (hl : l.stackTraces = false) (hn : 29 ≤ n) (hJ : jx_J σ) : xm_m (xk_k N) l tr_wordIn [.ref 1, .int a1, .int a2] (n, u, σ, xr_0) (xe_t ei_i n u (fr_wordIn a1 a2 σ)) := by
  refine xm_of hl ok_r_wordIn (Nat.le_of_ble_eq_true rfl) ?_
  show xw_w (xk_k N) l tr_wordIn 0 [some (.ref 1), some (.int a1), some (.int a2)] [] (n, u, σ, xr_0) (xe_t ei_i n u (fr_wordIn a1 a2 σ))
  unfold fr_wordIn
  refine xw_aload0 dr_wordIn_0 ?_
  refine xw_iload1 dr_wordIn_1 ?_
  refine xw_iload2 dr_wordIn_2 ?_
  refine xw_cTu dr_wordIn_3 (lk_r_wordIn_3 (xl_n hn (by decide)) rfl) ok_r_checkAccess (mr_checkAccess hl hn hJ) ⟨Nat.le_of_ble_eq_true rfl, Nat.le_of_ble_eq_true rfl⟩ rfl (fun b1 s2 h_s2 => ?_)
  have hJ_s2 : jx_J s2 := xj_o (jr_checkAccess hJ) h_s2
  refine xw_aload0 dr_wordIn_6 ?_
  refine xw_getR dr_wordIn_7 fl_r_31 (xl_n hn (by decide)) rfl r_1_3 ?_
  refine xw_aload0 dr_wordIn_10 ?_
  refine xw_getR dr_wordIn_11 fl_r_19 (xl_n hn (by decide)) rfl r_1_1 ?_
  refine xw_iload1 dr_wordIn_14 ?_
  refine xw_cVr dr_wordIn_15 (lk_r_wordIn_15 (xl_n hn (by decide)) rfl) ok_g_held (mg_held hl hn) ⟨Nat.le_of_ble_eq_true rfl, Nat.le_of_ble_eq_true rfl⟩ ?_
  refine xw_getI dr_wordIn_18 fl_r_173 (by decide) (xl_n hn he_i) he_k ?_
  refine xw_iload2 dr_wordIn_21 ?_
  refine xw_iadd dr_wordIn_22 ?_
  refine xw_aload0 dr_wordIn_23 ?_
  refine xw_getR dr_wordIn_24 fl_r_19 (xl_n hn (by decide)) rfl r_1_1 ?_
  refine xw_getI dr_wordIn_27 fl_r_157 (by decide) (xl_n hn (by decide)) rfl ?_
  refine xw_cTi dr_wordIn_30 (lk_r_wordIn_30 (xl_n hn (by decide)) rfl) ok_m_wordAt (mm_wordAt hl hn hJ_s2) ⟨Nat.le_of_ble_eq_true rfl, Nat.le_of_ble_eq_true rfl⟩ rfl (fun b3 s4 h_s4 => ?_)
  have hJ_s4 : jx_J s4 := xj_o (jm_wordAt hJ_s2) h_s4
  exact xw_iret dr_wordIn_33 rfl
theorem jr_wordIn {a1 : Int32} {a2 : Int32} {σ : xs_S} (hJ : jx_J σ) : jx_J (fr_wordIn a1 a2 σ).2 := by
  unfold fr_wordIn
  refine xj_b (jr_checkAccess hJ) (fun b1 s2 h_s2 hJ_s2 => ?_)
  refine xj_b (jm_wordAt hJ_s2) (fun b3 s4 h_s4 hJ_s4 => ?_)
  exact hJ_s4
def fm_setWord (a1 : Int32) (a2 : Int32) (a3 : Int32) (σ : xs_S) : xp_P Unit := xp_b (fm_locate a1 a3 (1 : Int32) σ) (fun b1 s2 => xl_l ((fm_put b1 a2 s2)) (fun s3 => xp_b (fm_locate (a1 + (1 : Int32)) a3 (1 : Int32) s3) (fun b4 s5 => xl_l ((fm_put b4 (a2 >>> ((8 : Int32) &&& 31)) s5)) (fun s6 => (some (), s6)))))
set_option maxRecDepth 100000 in
set_option maxHeartbeats 4000000 in
theorem mm_setWord {l : Launch} {N n u : Nat} {a1 : Int32} {a2 : Int32} {a3 : Int32} {σ : xs_S} (hl : l.stackTraces = false) (hn : 29 ≤ n) (hJ : jx_J σ) : xm_m (xk_k N) l tm_setWord [.ref 11, .int a1, .int a2, .int a3] (n, u, σ, xr_0) (xe_t eu_u n u (fm_setWord a1 a2 a3 σ)) := by
  refine xm_of hl ok_m_setWord (Nat.le_of_ble_eq_true rfl) ?_
  show xw_w (xk_k N) l tm_setWord 0 [some (.ref 11), some (.int a1), some (.int a2), some (.int a3)] [] (n, u, σ, xr_0) (xe_t eu_u n u (fm_setWord a1 a2 a3 σ))
  unfold fm_setWord
  refine xw_aload0 dm_setWord_0 ?_
  refine xw_aload0 dm_setWord_1 ?_
  refine xw_iload1 dm_setWord_2 ?_
  refine xw_iload3 dm_setWord_3 ?_
  refine xw_iconst dm_setWord_4 ki_1 ?_
  refine xw_cTi dm_setWord_5 (lk_m_setWord_5 (xl_n hn (by decide)) rfl) ok_m_locate (mm_locate hl hn hJ) ⟨Nat.le_of_ble_eq_true rfl, Nat.le_of_ble_eq_true rfl⟩ rfl (fun b1 s2 h_s2 => ?_)
  have hJ_s2 : jx_J s2 := xj_o (jm_locate hJ) h_s2
  refine xw_iload2 dm_setWord_8 ?_
  refine xw_cW dm_setWord_9 (lk_m_setWord_9 (xl_n hn (by decide)) rfl) ok_m_put (mm_put hl hn (lo_nn hJ h_s2)) ⟨Nat.le_of_ble_eq_true rfl, Nat.le_of_ble_eq_true rfl⟩ ?_
  refine xw_lw (fun s3 e_s3 => ?_)
  have hJ_s3 : jx_J s3 := by rw [e_s3]; exact (jm_put hJ_s2)
  refine xw_aload0 dm_setWord_12 ?_
  refine xw_aload0 dm_setWord_13 ?_
  refine xw_iload1 dm_setWord_14 ?_
  refine xw_iconst dm_setWord_15 ki_1 ?_
  refine xw_iadd dm_setWord_16 ?_
  refine xw_iload3 dm_setWord_17 ?_
  refine xw_iconst dm_setWord_18 ki_1 ?_
  refine xw_cTi dm_setWord_19 (lk_m_setWord_19 (xl_n hn (by decide)) rfl) ok_m_locate (mm_locate hl hn hJ_s3) ⟨Nat.le_of_ble_eq_true rfl, Nat.le_of_ble_eq_true rfl⟩ rfl (fun b4 s5 h_s5 => ?_)
  have hJ_s5 : jx_J s5 := xj_o (jm_locate hJ_s3) h_s5
  refine xw_iload2 dm_setWord_22 ?_
  refine xw_bipush dm_setWord_23 kb_8 ?_
  refine xw_ishr dm_setWord_25 ?_
  refine xw_cW dm_setWord_26 (lk_m_setWord_26 (xl_n hn (by decide)) rfl) ok_m_put (mm_put hl hn (lo_nn hJ_s3 h_s5)) ⟨Nat.le_of_ble_eq_true rfl, Nat.le_of_ble_eq_true rfl⟩ ?_
  refine xw_lw (fun s6 e_s6 => ?_)
  have hJ_s6 : jx_J s6 := by rw [e_s6]; exact (jm_put hJ_s5)
  exact xw_vret dm_setWord_29 rfl
theorem jm_setWord {a1 : Int32} {a2 : Int32} {a3 : Int32} {σ : xs_S} (hJ : jx_J σ) : jx_J (fm_setWord a1 a2 a3 σ).2 := by
  unfold fm_setWord
  refine xj_b (jm_locate hJ) (fun b1 s2 h_s2 hJ_s2 => ?_)
  refine xj_l (fun s3 e_s3 => ?_)
  have hJ_s3 : jx_J s3 := by rw [e_s3]; exact (jm_put hJ_s2)
  refine xj_b (jm_locate hJ_s3) (fun b4 s5 h_s5 hJ_s5 => ?_)
  refine xj_l (fun s6 e_s6 => ?_)
  have hJ_s6 : jx_J s6 := by rw [e_s6]; exact (jm_put hJ_s5)
  exact hJ_s6
def fr_pushWord (a1 : Int32) (σ : xs_S) : xp_P Unit := xl_l ((xu_u σ 3 3 (((σ 3 3) - (2 : Int32)) &&& (65535 : Int32)))) (fun s1 => xp_b (fr_checkAccess (1 : Int32) (s1 3 3) s1) (fun b2 s3 => xp_b (fm_setWord ((s3 5 1) + (s3 3 3)) a1 (s3 3 6) s3) (fun b4 s5 => (some (), s5))))
set_option maxRecDepth 100000 in
set_option maxHeartbeats 4000000 in
theorem mr_pushWord {l : Launch} {N n u : Nat} {a1 : Int32} {σ : xs_S} (hl : l.stackTraces = false) (hn : 29 ≤ n) (hJ : jx_J σ) : xm_m (xk_k N) l tr_pushWord [.ref 1, .int a1] (n, u, σ, xr_0) (xe_t eu_u n u (fr_pushWord a1 σ)) := by
  refine xm_of hl ok_r_pushWord (Nat.le_of_ble_eq_true rfl) ?_
  show xw_w (xk_k N) l tr_pushWord 0 [some (.ref 1), some (.int a1)] [] (n, u, σ, xr_0) (xe_t eu_u n u (fr_pushWord a1 σ))
  unfold fr_pushWord
  refine xw_aload0 dr_pushWord_0 ?_
  refine xw_getR dr_pushWord_1 fl_r_19 (xl_n hn (by decide)) rfl r_1_1 ?_
  refine xw_aload0 dr_pushWord_4 ?_
  refine xw_getR dr_pushWord_5 fl_r_19 (xl_n hn (by decide)) rfl r_1_1 ?_
  refine xw_getI dr_pushWord_8 fl_r_151 (by decide) (xl_n hn (by decide)) rfl ?_
  refine xw_iconst dr_pushWord_11 ki_2 ?_
  refine xw_isub dr_pushWord_12 ?_
  refine xw_ldc dr_pushWord_13 kc_r_87 ?_
  refine xw_iand dr_pushWord_15 ?_
  refine xw_putI dr_pushWord_16 fl_r_151 nf_3_3 (by decide) (xl_n hn (by decide)) rfl ?_
  refine xw_lw (fun s1 e_s1 => ?_)
  have hJ_s1 : jx_J s1 := by rw [e_s1]; exact (jx_u hJ (by decide))
  refine xw_aload0 dr_pushWord_19 ?_
  refine xw_iconst dr_pushWord_20 ki_1 ?_
  refine xw_aload0 dr_pushWord_21 ?_
  refine xw_getR dr_pushWord_22 fl_r_19 (xl_n hn (by decide)) rfl r_1_1 ?_
  refine xw_getI dr_pushWord_25 fl_r_151 (by decide) (xl_n hn (by decide)) rfl ?_
  refine xw_cTu dr_pushWord_28 (lk_r_pushWord_28 (xl_n hn (by decide)) rfl) ok_r_checkAccess (mr_checkAccess hl hn hJ_s1) ⟨Nat.le_of_ble_eq_true rfl, Nat.le_of_ble_eq_true rfl⟩ rfl (fun b2 s3 h_s3 => ?_)
  have hJ_s3 : jx_J s3 := xj_o (jr_checkAccess hJ_s1) h_s3
  refine xw_aload0 dr_pushWord_31 ?_
  refine xw_getR dr_pushWord_32 fl_r_31 (xl_n hn (by decide)) rfl r_1_3 ?_
  refine xw_aload0 dr_pushWord_35 ?_
  refine xw_getR dr_pushWord_36 fl_r_19 (xl_n hn (by decide)) rfl r_1_1 ?_
  refine xw_getR dr_pushWord_39 fl_r_145 (xl_n hn (by decide)) rfl r_3_1 ?_
  refine xw_getI dr_pushWord_42 fl_r_173 (by decide) (xl_n hn (by decide)) rfl ?_
  refine xw_aload0 dr_pushWord_45 ?_
  refine xw_getR dr_pushWord_46 fl_r_19 (xl_n hn (by decide)) rfl r_1_1 ?_
  refine xw_getI dr_pushWord_49 fl_r_151 (by decide) (xl_n hn (by decide)) rfl ?_
  refine xw_iadd dr_pushWord_52 ?_
  refine xw_iload1 dr_pushWord_53 ?_
  refine xw_aload0 dr_pushWord_54 ?_
  refine xw_getR dr_pushWord_55 fl_r_19 (xl_n hn (by decide)) rfl r_1_1 ?_
  refine xw_getI dr_pushWord_58 fl_r_157 (by decide) (xl_n hn (by decide)) rfl ?_
  refine xw_cTu dr_pushWord_61 (lk_r_pushWord_61 (xl_n hn (by decide)) rfl) ok_m_setWord (mm_setWord hl hn hJ_s3) ⟨Nat.le_of_ble_eq_true rfl, Nat.le_of_ble_eq_true rfl⟩ rfl (fun b4 s5 h_s5 => ?_)
  have hJ_s5 : jx_J s5 := xj_o (jm_setWord hJ_s3) h_s5
  exact xw_vret dr_pushWord_64 rfl
theorem jr_pushWord {a1 : Int32} {σ : xs_S} (hJ : jx_J σ) : jx_J (fr_pushWord a1 σ).2 := by
  unfold fr_pushWord
  refine xj_l (fun s1 e_s1 => ?_)
  have hJ_s1 : jx_J s1 := by rw [e_s1]; exact (jx_u hJ (by decide))
  refine xj_b (jr_checkAccess hJ_s1) (fun b2 s3 h_s3 hJ_s3 => ?_)
  refine xj_b (jm_setWord hJ_s3) (fun b4 s5 h_s5 hJ_s5 => ?_)
  exact hJ_s5
def fr_changeStack_0 (a1 : Int32) (σ : xs_S) : xp_P Unit := xl_l ((σ 3 3)) (fun v1 => xl_l ((σ 5 0)) (fun v2 => xl_l ((xu_u σ 3 6 (σ 14 4))) (fun s3 => xl_l ((fd_copy 5 15 s3)) (fun s4 => xl_l ((xu_u s4 3 3 a1)) (fun s5 => xp_b (fr_pushWord v2 s5) (fun b6 s7 => xp_b (fr_pushWord v1 s7) (fun b8 s9 => (some (), s9))))))))
set_option maxRecDepth 100000 in
set_option maxHeartbeats 4000000 in
theorem mr_changeStack_0 {l : Launch} {N n u : Nat} {a1 : Int32} {σ : xs_S} (hl : l.stackTraces = false) (hn : 29 ≤ n) (hJ : jx_J σ) : xm_m (xk_k N) l tr_changeStack [.ref 1, .int a1, .int (0 : Int32)] (n, u, σ, xr_0) (xe_t eu_u n u (fr_changeStack_0 a1 σ)) := by
  refine xm_of hl ok_r_changeStack (Nat.le_of_ble_eq_true rfl) ?_
  show xw_w (xk_k N) l tr_changeStack 0 [some (.ref 1), some (.int a1), some (.int (0 : Int32)), none, none, none] [] (n, u, σ, xr_0) (xe_t eu_u n u (fr_changeStack_0 a1 σ))
  unfold fr_changeStack_0
  refine xw_aload0 dr_changeStack_0 ?_
  refine xw_getR dr_changeStack_1 fl_r_19 (xl_n hn (by decide)) rfl r_1_1 ?_
  refine xw_getI dr_changeStack_4 fl_r_151 (by decide) (xl_n hn (by decide)) rfl ?_
  refine xw_li (fun v1 e_v1 => ?_)
  refine xw_istore3 dr_changeStack_7 (Nat.le_of_ble_eq_true rfl) rfl ?_
  refine xw_aload0 dr_changeStack_8 ?_
  refine xw_getR dr_changeStack_9 fl_r_19 (xl_n hn (by decide)) rfl r_1_1 ?_
  refine xw_getR dr_changeStack_12 fl_r_145 (xl_n hn (by decide)) rfl r_3_1 ?_
  refine xw_getI dr_changeStack_15 fl_r_142 (by decide) (xl_n hn (by decide)) rfl ?_
  refine xw_li (fun v2 e_v2 => ?_)
  refine xw_istore4 dr_changeStack_18 (Nat.le_of_ble_eq_true rfl) rfl ?_
  refine xw_iconst dr_changeStack_20 ki_0 ?_
  refine xw_istore5 dr_changeStack_21 (Nat.le_of_ble_eq_true rfl) rfl ?_
  refine xw_iload5 dr_changeStack_23 ?_
  refine xw_iload2 dr_changeStack_25 ?_
  refine xw_icmp_ge_t dr_changeStack_26 rfl (by decide) ?_
  refine xw_aload0 dr_changeStack_56 ?_
  refine xw_getR dr_changeStack_57 fl_r_19 (xl_n hn (by decide)) rfl r_1_1 ?_
  refine xw_aload0 dr_changeStack_60 ?_
  refine xw_getR dr_changeStack_61 fl_r_42 (xl_n hn (by decide)) rfl r_1_5 ?_
  refine xw_getI dr_changeStack_64 fl_r_182 (by decide) (xl_n hn (by decide)) rfl ?_
  refine xw_putI dr_changeStack_67 fl_r_157 nf_3_6 (by decide) (xl_n hn (by decide)) rfl ?_
  refine xw_lw (fun s3 e_s3 => ?_)
  have hJ_s3 : jx_J s3 := by rw [e_s3]; exact (jx_u hJ (by decide))
  refine xw_aload0 dr_changeStack_70 ?_
  refine xw_getR dr_changeStack_71 fl_r_19 (xl_n hn (by decide)) rfl r_1_1 ?_
  refine xw_getR dr_changeStack_74 fl_r_145 (xl_n hn (by decide)) rfl r_3_1 ?_
  refine xw_aload0 dr_changeStack_77 ?_
  refine xw_getR dr_changeStack_78 fl_r_45 (xl_n hn (by decide)) rfl r_1_6 ?_
  refine xw_cW dr_changeStack_81 (lk_r_changeStack_81 (xl_n hn (by decide)) rfl) ok_d_copy (md_copy hl hn (by decide) (xl_n hn (by decide)) rfl (by decide) (xl_n hn (by decide)) rfl) ⟨Nat.le_of_ble_eq_true rfl, Nat.le_of_ble_eq_true rfl⟩ ?_
  refine xw_lw (fun s4 e_s4 => ?_)
  have hJ_s4 : jx_J s4 := by rw [e_s4]; exact (jd_copy (by decide) hJ_s3)
  refine xw_aload0 dr_changeStack_84 ?_
  refine xw_getR dr_changeStack_85 fl_r_19 (xl_n hn (by decide)) rfl r_1_1 ?_
  refine xw_iload1 dr_changeStack_88 ?_
  refine xw_putI dr_changeStack_89 fl_r_151 nf_3_3 (by decide) (xl_n hn (by decide)) rfl ?_
  refine xw_lw (fun s5 e_s5 => ?_)
  have hJ_s5 : jx_J s5 := by rw [e_s5]; exact (jx_u hJ_s4 (by decide))
  refine xw_aload0 dr_changeStack_92 ?_
  refine xw_iload4 dr_changeStack_93 ?_
  refine xw_cTu dr_changeStack_95 (lk_r_changeStack_95 (xl_n hn (by decide)) rfl) ok_r_pushWord (mr_pushWord hl hn hJ_s5) ⟨Nat.le_of_ble_eq_true rfl, Nat.le_of_ble_eq_true rfl⟩ rfl (fun b6 s7 h_s7 => ?_)
  have hJ_s7 : jx_J s7 := xj_o (jr_pushWord hJ_s5) h_s7
  refine xw_aload0 dr_changeStack_98 ?_
  refine xw_iload3 dr_changeStack_99 ?_
  refine xw_cTu dr_changeStack_100 (lk_r_changeStack_100 (xl_n hn (by decide)) rfl) ok_r_pushWord (mr_pushWord hl hn hJ_s7) ⟨Nat.le_of_ble_eq_true rfl, Nat.le_of_ble_eq_true rfl⟩ rfl (fun b8 s9 h_s9 => ?_)
  have hJ_s9 : jx_J s9 := xj_o (jr_pushWord hJ_s7) h_s9
  refine xw_iload2 dr_changeStack_103 ?_
  refine xw_iconst dr_changeStack_104 ki_1 ?_
  refine xw_isubc dr_changeStack_105 sb_0_1 ?_
  refine xw_istore5 dr_changeStack_106 (Nat.le_of_ble_eq_true rfl) rfl ?_
  refine xw_iload5 dr_changeStack_108 ?_
  refine xw_if_lt_t dr_changeStack_110 rfl (by decide) ?_
  exact xw_vret dr_changeStack_130 rfl
theorem jr_changeStack_0 {a1 : Int32} {σ : xs_S} (hJ : jx_J σ) : jx_J (fr_changeStack_0 a1 σ).2 := by
  unfold fr_changeStack_0
  refine xj_l (fun v1 e_v1 => ?_)
  refine xj_l (fun v2 e_v2 => ?_)
  refine xj_l (fun s3 e_s3 => ?_)
  have hJ_s3 : jx_J s3 := by rw [e_s3]; exact (jx_u hJ (by decide))
  refine xj_l (fun s4 e_s4 => ?_)
  have hJ_s4 : jx_J s4 := by rw [e_s4]; exact (jd_copy (by decide) hJ_s3)
  refine xj_l (fun s5 e_s5 => ?_)
  have hJ_s5 : jx_J s5 := by rw [e_s5]; exact (jx_u hJ_s4 (by decide))
  refine xj_b (jr_pushWord hJ_s5) (fun b6 s7 h_s7 hJ_s7 => ?_)
  refine xj_b (jr_pushWord hJ_s7) (fun b8 s9 h_s9 hJ_s9 => ?_)
  exact hJ_s9
def fr_changeStack_1 (a1 : Int32) (σ : xs_S) : xp_P Unit := xl_l ((σ 3 3)) (fun v1 => xl_l ((σ 5 0)) (fun v2 => xp_b (fr_wordIn (1 : Int32) ((v1 + ((2 : Int32) * (0 : Int32))) &&& (65535 : Int32)) σ) (fun b3 s4 => xl_l ((xu_u s4 17 0 b3)) (fun s5 => xl_l ((xu_u s5 3 6 (s5 14 4))) (fun s6 => xl_l ((fd_copy 5 15 s6)) (fun s7 => xl_l ((xu_u s7 3 3 a1)) (fun s8 => xp_b (fr_pushWord v2 s8) (fun b9 s10 => xp_b (fr_pushWord v1 s10) (fun b11 s12 => xp_b (fr_pushWord (s12 17 0) s12) (fun b13 s14 => (some (), s14)))))))))))
set_option maxRecDepth 100000 in
set_option maxHeartbeats 4000000 in
theorem mr_changeStack_1 {l : Launch} {N n u : Nat} {a1 : Int32} {σ : xs_S} (hl : l.stackTraces = false) (hn : 29 ≤ n) (hJ : jx_J σ) : xm_m (xk_k N) l tr_changeStack [.ref 1, .int a1, .int (1 : Int32)] (n, u, σ, xr_0) (xe_t eu_u n u (fr_changeStack_1 a1 σ)) := by
  refine xm_of hl ok_r_changeStack (Nat.le_of_ble_eq_true rfl) ?_
  show xw_w (xk_k N) l tr_changeStack 0 [some (.ref 1), some (.int a1), some (.int (1 : Int32)), none, none, none] [] (n, u, σ, xr_0) (xe_t eu_u n u (fr_changeStack_1 a1 σ))
  unfold fr_changeStack_1
  refine xw_aload0 dr_changeStack_0 ?_
  refine xw_getR dr_changeStack_1 fl_r_19 (xl_n hn (by decide)) rfl r_1_1 ?_
  refine xw_getI dr_changeStack_4 fl_r_151 (by decide) (xl_n hn (by decide)) rfl ?_
  refine xw_li (fun v1 e_v1 => ?_)
  refine xw_istore3 dr_changeStack_7 (Nat.le_of_ble_eq_true rfl) rfl ?_
  refine xw_aload0 dr_changeStack_8 ?_
  refine xw_getR dr_changeStack_9 fl_r_19 (xl_n hn (by decide)) rfl r_1_1 ?_
  refine xw_getR dr_changeStack_12 fl_r_145 (xl_n hn (by decide)) rfl r_3_1 ?_
  refine xw_getI dr_changeStack_15 fl_r_142 (by decide) (xl_n hn (by decide)) rfl ?_
  refine xw_li (fun v2 e_v2 => ?_)
  refine xw_istore4 dr_changeStack_18 (Nat.le_of_ble_eq_true rfl) rfl ?_
  refine xw_iconst dr_changeStack_20 ki_0 ?_
  refine xw_istore5 dr_changeStack_21 (Nat.le_of_ble_eq_true rfl) rfl ?_
  refine xw_iload5 dr_changeStack_23 ?_
  refine xw_iload2 dr_changeStack_25 ?_
  refine xw_icmp_ge_f dr_changeStack_26 rfl (by decide) ?_
  refine xw_aload0 dr_changeStack_29 ?_
  refine xw_getR dr_changeStack_30 fl_r_52 (xl_n hn (by decide)) rfl r_1_8 ?_
  refine xw_iload5 dr_changeStack_33 ?_
  refine xw_aload0 dr_changeStack_35 ?_
  refine xw_iconst dr_changeStack_36 ki_1 ?_
  refine xw_iload3 dr_changeStack_37 ?_
  refine xw_iconst dr_changeStack_38 ki_2 ?_
  refine xw_iload5 dr_changeStack_39 ?_
  refine xw_imul dr_changeStack_41 ?_
  refine xw_iadd dr_changeStack_42 ?_
  refine xw_ldc dr_changeStack_43 kc_r_87 ?_
  refine xw_iand dr_changeStack_45 ?_
  refine xw_cTi dr_changeStack_46 (lk_r_changeStack_46 (xl_n hn (by decide)) rfl) ok_r_wordIn (mr_wordIn hl hn hJ) ⟨Nat.le_of_ble_eq_true rfl, Nat.le_of_ble_eq_true rfl⟩ rfl (fun b3 s4 h_s4 => ?_)
  have hJ_s4 : jx_J s4 := xj_o (jr_wordIn hJ) h_s4
  refine xw_iast dr_changeStack_49 (by decide) (xl_n hn (by decide)) rfl vc_0_7 cn_0 ?_
  refine xw_lw (fun s5 e_s5 => ?_)
  have hJ_s5 : jx_J s5 := by rw [e_s5]; exact (jx_u hJ_s4 (by decide))
  refine xw_iinc5 dr_changeStack_50 ic_0_1 (Nat.le_of_ble_eq_true rfl) rfl ?_
  refine xw_goto dr_changeStack_53 rfl ?_
  refine xw_iload5 dr_changeStack_23 ?_
  refine xw_iload2 dr_changeStack_25 ?_
  refine xw_icmp_ge_t dr_changeStack_26 rfl (by decide) ?_
  refine xw_aload0 dr_changeStack_56 ?_
  refine xw_getR dr_changeStack_57 fl_r_19 (xl_n hn (by decide)) rfl r_1_1 ?_
  refine xw_aload0 dr_changeStack_60 ?_
  refine xw_getR dr_changeStack_61 fl_r_42 (xl_n hn (by decide)) rfl r_1_5 ?_
  refine xw_getI dr_changeStack_64 fl_r_182 (by decide) (xl_n hn (by decide)) rfl ?_
  refine xw_putI dr_changeStack_67 fl_r_157 nf_3_6 (by decide) (xl_n hn (by decide)) rfl ?_
  refine xw_lw (fun s6 e_s6 => ?_)
  have hJ_s6 : jx_J s6 := by rw [e_s6]; exact (jx_u hJ_s5 (by decide))
  refine xw_aload0 dr_changeStack_70 ?_
  refine xw_getR dr_changeStack_71 fl_r_19 (xl_n hn (by decide)) rfl r_1_1 ?_
  refine xw_getR dr_changeStack_74 fl_r_145 (xl_n hn (by decide)) rfl r_3_1 ?_
  refine xw_aload0 dr_changeStack_77 ?_
  refine xw_getR dr_changeStack_78 fl_r_45 (xl_n hn (by decide)) rfl r_1_6 ?_
  refine xw_cW dr_changeStack_81 (lk_r_changeStack_81 (xl_n hn (by decide)) rfl) ok_d_copy (md_copy hl hn (by decide) (xl_n hn (by decide)) rfl (by decide) (xl_n hn (by decide)) rfl) ⟨Nat.le_of_ble_eq_true rfl, Nat.le_of_ble_eq_true rfl⟩ ?_
  refine xw_lw (fun s7 e_s7 => ?_)
  have hJ_s7 : jx_J s7 := by rw [e_s7]; exact (jd_copy (by decide) hJ_s6)
  refine xw_aload0 dr_changeStack_84 ?_
  refine xw_getR dr_changeStack_85 fl_r_19 (xl_n hn (by decide)) rfl r_1_1 ?_
  refine xw_iload1 dr_changeStack_88 ?_
  refine xw_putI dr_changeStack_89 fl_r_151 nf_3_3 (by decide) (xl_n hn (by decide)) rfl ?_
  refine xw_lw (fun s8 e_s8 => ?_)
  have hJ_s8 : jx_J s8 := by rw [e_s8]; exact (jx_u hJ_s7 (by decide))
  refine xw_aload0 dr_changeStack_92 ?_
  refine xw_iload4 dr_changeStack_93 ?_
  refine xw_cTu dr_changeStack_95 (lk_r_changeStack_95 (xl_n hn (by decide)) rfl) ok_r_pushWord (mr_pushWord hl hn hJ_s8) ⟨Nat.le_of_ble_eq_true rfl, Nat.le_of_ble_eq_true rfl⟩ rfl (fun b9 s10 h_s10 => ?_)
  have hJ_s10 : jx_J s10 := xj_o (jr_pushWord hJ_s8) h_s10
  refine xw_aload0 dr_changeStack_98 ?_
  refine xw_iload3 dr_changeStack_99 ?_
  refine xw_cTu dr_changeStack_100 (lk_r_changeStack_100 (xl_n hn (by decide)) rfl) ok_r_pushWord (mr_pushWord hl hn hJ_s10) ⟨Nat.le_of_ble_eq_true rfl, Nat.le_of_ble_eq_true rfl⟩ rfl (fun b11 s12 h_s12 => ?_)
  have hJ_s12 : jx_J s12 := xj_o (jr_pushWord hJ_s10) h_s12
  refine xw_iload2 dr_changeStack_103 ?_
  refine xw_iconst dr_changeStack_104 ki_1 ?_
  refine xw_isubc dr_changeStack_105 sb_1_1 ?_
  refine xw_istore5 dr_changeStack_106 (Nat.le_of_ble_eq_true rfl) rfl ?_
  refine xw_iload5 dr_changeStack_108 ?_
  refine xw_if_lt_f dr_changeStack_110 rfl (by decide) ?_
  refine xw_aload0 dr_changeStack_113 ?_
  refine xw_aload0 dr_changeStack_114 ?_
  refine xw_getR dr_changeStack_115 fl_r_52 (xl_n hn (by decide)) rfl r_1_8 ?_
  refine xw_iload5 dr_changeStack_118 ?_
  refine xw_iald dr_changeStack_120 (xl_n hn (by decide)) rfl vc_0_7 cn_0 ?_
  refine xw_cTu dr_changeStack_121 (lk_r_changeStack_121 (xl_n hn (by decide)) rfl) ok_r_pushWord (mr_pushWord hl hn hJ_s12) ⟨Nat.le_of_ble_eq_true rfl, Nat.le_of_ble_eq_true rfl⟩ rfl (fun b13 s14 h_s14 => ?_)
  have hJ_s14 : jx_J s14 := xj_o (jr_pushWord hJ_s12) h_s14
  refine xw_iinc5 dr_changeStack_124 ic_0_m1 (Nat.le_of_ble_eq_true rfl) rfl ?_
  refine xw_goto dr_changeStack_127 rfl ?_
  refine xw_iload5 dr_changeStack_108 ?_
  refine xw_if_lt_t dr_changeStack_110 rfl (by decide) ?_
  exact xw_vret dr_changeStack_130 rfl
theorem jr_changeStack_1 {a1 : Int32} {σ : xs_S} (hJ : jx_J σ) : jx_J (fr_changeStack_1 a1 σ).2 := by
  unfold fr_changeStack_1
  refine xj_l (fun v1 e_v1 => ?_)
  refine xj_l (fun v2 e_v2 => ?_)
  refine xj_b (jr_wordIn hJ) (fun b3 s4 h_s4 hJ_s4 => ?_)
  refine xj_l (fun s5 e_s5 => ?_)
  have hJ_s5 : jx_J s5 := by rw [e_s5]; exact (jx_u hJ_s4 (by decide))
  refine xj_l (fun s6 e_s6 => ?_)
  have hJ_s6 : jx_J s6 := by rw [e_s6]; exact (jx_u hJ_s5 (by decide))
  refine xj_l (fun s7 e_s7 => ?_)
  have hJ_s7 : jx_J s7 := by rw [e_s7]; exact (jd_copy (by decide) hJ_s6)
  refine xj_l (fun s8 e_s8 => ?_)
  have hJ_s8 : jx_J s8 := by rw [e_s8]; exact (jx_u hJ_s7 (by decide))
  refine xj_b (jr_pushWord hJ_s8) (fun b9 s10 h_s10 hJ_s10 => ?_)
  refine xj_b (jr_pushWord hJ_s10) (fun b11 s12 h_s12 hJ_s12 => ?_)
  refine xj_b (jr_pushWord hJ_s12) (fun b13 s14 h_s14 hJ_s14 => ?_)
  exact hJ_s14
def fr_changeStack_2 (a1 : Int32) (σ : xs_S) : xp_P Unit := xl_l ((σ 3 3)) (fun v1 => xl_l ((σ 5 0)) (fun v2 => xp_b (fr_wordIn (1 : Int32) ((v1 + ((2 : Int32) * (0 : Int32))) &&& (65535 : Int32)) σ) (fun b3 s4 => xl_l ((xu_u s4 17 0 b3)) (fun s5 => xp_b (fr_wordIn (1 : Int32) ((v1 + ((2 : Int32) * (1 : Int32))) &&& (65535 : Int32)) s5) (fun b6 s7 => xl_l ((xu_u s7 17 1 b6)) (fun s8 => xl_l ((xu_u s8 3 6 (s8 14 4))) (fun s9 => xl_l ((fd_copy 5 15 s9)) (fun s10 => xl_l ((xu_u s10 3 3 a1)) (fun s11 => xp_b (fr_pushWord v2 s11) (fun b12 s13 => xp_b (fr_pushWord v1 s13) (fun b14 s15 => xp_b (fr_pushWord (s15 17 1) s15) (fun b16 s17 => xp_b (fr_pushWord (s17 17 0) s17) (fun b18 s19 => (some (), s19))))))))))))))
set_option maxRecDepth 100000 in
set_option maxHeartbeats 4000000 in
theorem mr_changeStack_2 {l : Launch} {N n u : Nat} {a1 : Int32} {σ : xs_S} (hl : l.stackTraces = false) (hn : 29 ≤ n) (hJ : jx_J σ) : xm_m (xk_k N) l tr_changeStack [.ref 1, .int a1, .int (2 : Int32)] (n, u, σ, xr_0) (xe_t eu_u n u (fr_changeStack_2 a1 σ)) := by
  refine xm_of hl ok_r_changeStack (Nat.le_of_ble_eq_true rfl) ?_
  show xw_w (xk_k N) l tr_changeStack 0 [some (.ref 1), some (.int a1), some (.int (2 : Int32)), none, none, none] [] (n, u, σ, xr_0) (xe_t eu_u n u (fr_changeStack_2 a1 σ))
  unfold fr_changeStack_2
  refine xw_aload0 dr_changeStack_0 ?_
  refine xw_getR dr_changeStack_1 fl_r_19 (xl_n hn (by decide)) rfl r_1_1 ?_
  refine xw_getI dr_changeStack_4 fl_r_151 (by decide) (xl_n hn (by decide)) rfl ?_
  refine xw_li (fun v1 e_v1 => ?_)
  refine xw_istore3 dr_changeStack_7 (Nat.le_of_ble_eq_true rfl) rfl ?_
  refine xw_aload0 dr_changeStack_8 ?_
  refine xw_getR dr_changeStack_9 fl_r_19 (xl_n hn (by decide)) rfl r_1_1 ?_
  refine xw_getR dr_changeStack_12 fl_r_145 (xl_n hn (by decide)) rfl r_3_1 ?_
  refine xw_getI dr_changeStack_15 fl_r_142 (by decide) (xl_n hn (by decide)) rfl ?_
  refine xw_li (fun v2 e_v2 => ?_)
  refine xw_istore4 dr_changeStack_18 (Nat.le_of_ble_eq_true rfl) rfl ?_
  refine xw_iconst dr_changeStack_20 ki_0 ?_
  refine xw_istore5 dr_changeStack_21 (Nat.le_of_ble_eq_true rfl) rfl ?_
  refine xw_iload5 dr_changeStack_23 ?_
  refine xw_iload2 dr_changeStack_25 ?_
  refine xw_icmp_ge_f dr_changeStack_26 rfl (by decide) ?_
  refine xw_aload0 dr_changeStack_29 ?_
  refine xw_getR dr_changeStack_30 fl_r_52 (xl_n hn (by decide)) rfl r_1_8 ?_
  refine xw_iload5 dr_changeStack_33 ?_
  refine xw_aload0 dr_changeStack_35 ?_
  refine xw_iconst dr_changeStack_36 ki_1 ?_
  refine xw_iload3 dr_changeStack_37 ?_
  refine xw_iconst dr_changeStack_38 ki_2 ?_
  refine xw_iload5 dr_changeStack_39 ?_
  refine xw_imul dr_changeStack_41 ?_
  refine xw_iadd dr_changeStack_42 ?_
  refine xw_ldc dr_changeStack_43 kc_r_87 ?_
  refine xw_iand dr_changeStack_45 ?_
  refine xw_cTi dr_changeStack_46 (lk_r_changeStack_46 (xl_n hn (by decide)) rfl) ok_r_wordIn (mr_wordIn hl hn hJ) ⟨Nat.le_of_ble_eq_true rfl, Nat.le_of_ble_eq_true rfl⟩ rfl (fun b3 s4 h_s4 => ?_)
  have hJ_s4 : jx_J s4 := xj_o (jr_wordIn hJ) h_s4
  refine xw_iast dr_changeStack_49 (by decide) (xl_n hn (by decide)) rfl vc_0_7 cn_0 ?_
  refine xw_lw (fun s5 e_s5 => ?_)
  have hJ_s5 : jx_J s5 := by rw [e_s5]; exact (jx_u hJ_s4 (by decide))
  refine xw_iinc5 dr_changeStack_50 ic_0_1 (Nat.le_of_ble_eq_true rfl) rfl ?_
  refine xw_goto dr_changeStack_53 rfl ?_
  refine xw_iload5 dr_changeStack_23 ?_
  refine xw_iload2 dr_changeStack_25 ?_
  refine xw_icmp_ge_f dr_changeStack_26 rfl (by decide) ?_
  refine xw_aload0 dr_changeStack_29 ?_
  refine xw_getR dr_changeStack_30 fl_r_52 (xl_n hn (by decide)) rfl r_1_8 ?_
  refine xw_iload5 dr_changeStack_33 ?_
  refine xw_aload0 dr_changeStack_35 ?_
  refine xw_iconst dr_changeStack_36 ki_1 ?_
  refine xw_iload3 dr_changeStack_37 ?_
  refine xw_iconst dr_changeStack_38 ki_2 ?_
  refine xw_iload5 dr_changeStack_39 ?_
  refine xw_imul dr_changeStack_41 ?_
  refine xw_iadd dr_changeStack_42 ?_
  refine xw_ldc dr_changeStack_43 kc_r_87 ?_
  refine xw_iand dr_changeStack_45 ?_
  refine xw_cTi dr_changeStack_46 (lk_r_changeStack_46 (xl_n hn (by decide)) rfl) ok_r_wordIn (mr_wordIn hl hn hJ_s5) ⟨Nat.le_of_ble_eq_true rfl, Nat.le_of_ble_eq_true rfl⟩ rfl (fun b6 s7 h_s7 => ?_)
  have hJ_s7 : jx_J s7 := xj_o (jr_wordIn hJ_s5) h_s7
  refine xw_iast dr_changeStack_49 (by decide) (xl_n hn (by decide)) rfl vc_1_7 cn_1 ?_
  refine xw_lw (fun s8 e_s8 => ?_)
  have hJ_s8 : jx_J s8 := by rw [e_s8]; exact (jx_u hJ_s7 (by decide))
  refine xw_iinc5 dr_changeStack_50 ic_1_1 (Nat.le_of_ble_eq_true rfl) rfl ?_
  refine xw_goto dr_changeStack_53 rfl ?_
  refine xw_iload5 dr_changeStack_23 ?_
  refine xw_iload2 dr_changeStack_25 ?_
  refine xw_icmp_ge_t dr_changeStack_26 rfl (by decide) ?_
  refine xw_aload0 dr_changeStack_56 ?_
  refine xw_getR dr_changeStack_57 fl_r_19 (xl_n hn (by decide)) rfl r_1_1 ?_
  refine xw_aload0 dr_changeStack_60 ?_
  refine xw_getR dr_changeStack_61 fl_r_42 (xl_n hn (by decide)) rfl r_1_5 ?_
  refine xw_getI dr_changeStack_64 fl_r_182 (by decide) (xl_n hn (by decide)) rfl ?_
  refine xw_putI dr_changeStack_67 fl_r_157 nf_3_6 (by decide) (xl_n hn (by decide)) rfl ?_
  refine xw_lw (fun s9 e_s9 => ?_)
  have hJ_s9 : jx_J s9 := by rw [e_s9]; exact (jx_u hJ_s8 (by decide))
  refine xw_aload0 dr_changeStack_70 ?_
  refine xw_getR dr_changeStack_71 fl_r_19 (xl_n hn (by decide)) rfl r_1_1 ?_
  refine xw_getR dr_changeStack_74 fl_r_145 (xl_n hn (by decide)) rfl r_3_1 ?_
  refine xw_aload0 dr_changeStack_77 ?_
  refine xw_getR dr_changeStack_78 fl_r_45 (xl_n hn (by decide)) rfl r_1_6 ?_
  refine xw_cW dr_changeStack_81 (lk_r_changeStack_81 (xl_n hn (by decide)) rfl) ok_d_copy (md_copy hl hn (by decide) (xl_n hn (by decide)) rfl (by decide) (xl_n hn (by decide)) rfl) ⟨Nat.le_of_ble_eq_true rfl, Nat.le_of_ble_eq_true rfl⟩ ?_
  refine xw_lw (fun s10 e_s10 => ?_)
  have hJ_s10 : jx_J s10 := by rw [e_s10]; exact (jd_copy (by decide) hJ_s9)
  refine xw_aload0 dr_changeStack_84 ?_
  refine xw_getR dr_changeStack_85 fl_r_19 (xl_n hn (by decide)) rfl r_1_1 ?_
  refine xw_iload1 dr_changeStack_88 ?_
  refine xw_putI dr_changeStack_89 fl_r_151 nf_3_3 (by decide) (xl_n hn (by decide)) rfl ?_
  refine xw_lw (fun s11 e_s11 => ?_)
  have hJ_s11 : jx_J s11 := by rw [e_s11]; exact (jx_u hJ_s10 (by decide))
  refine xw_aload0 dr_changeStack_92 ?_
  refine xw_iload4 dr_changeStack_93 ?_
  refine xw_cTu dr_changeStack_95 (lk_r_changeStack_95 (xl_n hn (by decide)) rfl) ok_r_pushWord (mr_pushWord hl hn hJ_s11) ⟨Nat.le_of_ble_eq_true rfl, Nat.le_of_ble_eq_true rfl⟩ rfl (fun b12 s13 h_s13 => ?_)
  have hJ_s13 : jx_J s13 := xj_o (jr_pushWord hJ_s11) h_s13
  refine xw_aload0 dr_changeStack_98 ?_
  refine xw_iload3 dr_changeStack_99 ?_
  refine xw_cTu dr_changeStack_100 (lk_r_changeStack_100 (xl_n hn (by decide)) rfl) ok_r_pushWord (mr_pushWord hl hn hJ_s13) ⟨Nat.le_of_ble_eq_true rfl, Nat.le_of_ble_eq_true rfl⟩ rfl (fun b14 s15 h_s15 => ?_)
  have hJ_s15 : jx_J s15 := xj_o (jr_pushWord hJ_s13) h_s15
  refine xw_iload2 dr_changeStack_103 ?_
  refine xw_iconst dr_changeStack_104 ki_1 ?_
  refine xw_isubc dr_changeStack_105 sb_2_1 ?_
  refine xw_istore5 dr_changeStack_106 (Nat.le_of_ble_eq_true rfl) rfl ?_
  refine xw_iload5 dr_changeStack_108 ?_
  refine xw_if_lt_f dr_changeStack_110 rfl (by decide) ?_
  refine xw_aload0 dr_changeStack_113 ?_
  refine xw_aload0 dr_changeStack_114 ?_
  refine xw_getR dr_changeStack_115 fl_r_52 (xl_n hn (by decide)) rfl r_1_8 ?_
  refine xw_iload5 dr_changeStack_118 ?_
  refine xw_iald dr_changeStack_120 (xl_n hn (by decide)) rfl vc_1_7 cn_1 ?_
  refine xw_cTu dr_changeStack_121 (lk_r_changeStack_121 (xl_n hn (by decide)) rfl) ok_r_pushWord (mr_pushWord hl hn hJ_s15) ⟨Nat.le_of_ble_eq_true rfl, Nat.le_of_ble_eq_true rfl⟩ rfl (fun b16 s17 h_s17 => ?_)
  have hJ_s17 : jx_J s17 := xj_o (jr_pushWord hJ_s15) h_s17
  refine xw_iinc5 dr_changeStack_124 ic_1_m1 (Nat.le_of_ble_eq_true rfl) rfl ?_
  refine xw_goto dr_changeStack_127 rfl ?_
  refine xw_iload5 dr_changeStack_108 ?_
  refine xw_if_lt_f dr_changeStack_110 rfl (by decide) ?_
  refine xw_aload0 dr_changeStack_113 ?_
  refine xw_aload0 dr_changeStack_114 ?_
  refine xw_getR dr_changeStack_115 fl_r_52 (xl_n hn (by decide)) rfl r_1_8 ?_
  refine xw_iload5 dr_changeStack_118 ?_
  refine xw_iald dr_changeStack_120 (xl_n hn (by decide)) rfl vc_0_7 cn_0 ?_
  refine xw_cTu dr_changeStack_121 (lk_r_changeStack_121 (xl_n hn (by decide)) rfl) ok_r_pushWord (mr_pushWord hl hn hJ_s17) ⟨Nat.le_of_ble_eq_true rfl, Nat.le_of_ble_eq_true rfl⟩ rfl (fun b18 s19 h_s19 => ?_)
  have hJ_s19 : jx_J s19 := xj_o (jr_pushWord hJ_s17) h_s19
  refine xw_iinc5 dr_changeStack_124 ic_0_m1 (Nat.le_of_ble_eq_true rfl) rfl ?_
  refine xw_goto dr_changeStack_127 rfl ?_
  refine xw_iload5 dr_changeStack_108 ?_
  refine xw_if_lt_t dr_changeStack_110 rfl (by decide) ?_
  exact xw_vret dr_changeStack_130 rfl
theorem jr_changeStack_2 {a1 : Int32} {σ : xs_S} (hJ : jx_J σ) : jx_J (fr_changeStack_2 a1 σ).2 := by
  unfold fr_changeStack_2
  refine xj_l (fun v1 e_v1 => ?_)
  refine xj_l (fun v2 e_v2 => ?_)
  refine xj_b (jr_wordIn hJ) (fun b3 s4 h_s4 hJ_s4 => ?_)
  refine xj_l (fun s5 e_s5 => ?_)
  have hJ_s5 : jx_J s5 := by rw [e_s5]; exact (jx_u hJ_s4 (by decide))
  refine xj_b (jr_wordIn hJ_s5) (fun b6 s7 h_s7 hJ_s7 => ?_)
  refine xj_l (fun s8 e_s8 => ?_)
  have hJ_s8 : jx_J s8 := by rw [e_s8]; exact (jx_u hJ_s7 (by decide))
  refine xj_l (fun s9 e_s9 => ?_)
  have hJ_s9 : jx_J s9 := by rw [e_s9]; exact (jx_u hJ_s8 (by decide))
  refine xj_l (fun s10 e_s10 => ?_)
  have hJ_s10 : jx_J s10 := by rw [e_s10]; exact (jd_copy (by decide) hJ_s9)
  refine xj_l (fun s11 e_s11 => ?_)
  have hJ_s11 : jx_J s11 := by rw [e_s11]; exact (jx_u hJ_s10 (by decide))
  refine xj_b (jr_pushWord hJ_s11) (fun b12 s13 h_s13 hJ_s13 => ?_)
  refine xj_b (jr_pushWord hJ_s13) (fun b14 s15 h_s15 hJ_s15 => ?_)
  refine xj_b (jr_pushWord hJ_s15) (fun b16 s17 h_s17 hJ_s17 => ?_)
  refine xj_b (jr_pushWord hJ_s17) (fun b18 s19 h_s19 hJ_s19 => ?_)
  exact hJ_s19
def fr_changeStack_3 (a1 : Int32) (σ : xs_S) : xp_P Unit := xl_l ((σ 3 3)) (fun v1 => xl_l ((σ 5 0)) (fun v2 => xp_b (fr_wordIn (1 : Int32) ((v1 + ((2 : Int32) * (0 : Int32))) &&& (65535 : Int32)) σ) (fun b3 s4 => xl_l ((xu_u s4 17 0 b3)) (fun s5 => xp_b (fr_wordIn (1 : Int32) ((v1 + ((2 : Int32) * (1 : Int32))) &&& (65535 : Int32)) s5) (fun b6 s7 => xl_l ((xu_u s7 17 1 b6)) (fun s8 => xp_b (fr_wordIn (1 : Int32) ((v1 + ((2 : Int32) * (2 : Int32))) &&& (65535 : Int32)) s8) (fun b9 s10 => xl_l ((xu_u s10 17 2 b9)) (fun s11 => xl_l ((xu_u s11 3 6 (s11 14 4))) (fun s12 => xl_l ((fd_copy 5 15 s12)) (fun s13 => xl_l ((xu_u s13 3 3 a1)) (fun s14 => xp_b (fr_pushWord v2 s14) (fun b15 s16 => xp_b (fr_pushWord v1 s16) (fun b17 s18 => xp_b (fr_pushWord (s18 17 2) s18) (fun b19 s20 => xp_b (fr_pushWord (s20 17 1) s20) (fun b21 s22 => xp_b (fr_pushWord (s22 17 0) s22) (fun b23 s24 => (some (), s24)))))))))))))))))
set_option maxRecDepth 100000 in
set_option maxHeartbeats 4000000 in
theorem mr_changeStack_3 {l : Launch} {N n u : Nat} {a1 : Int32} {σ : xs_S} (hl : l.stackTraces = false) (hn : 29 ≤ n) (hJ : jx_J σ) : xm_m (xk_k N) l tr_changeStack [.ref 1, .int a1, .int (3 : Int32)] (n, u, σ, xr_0) (xe_t eu_u n u (fr_changeStack_3 a1 σ)) := by
  refine xm_of hl ok_r_changeStack (Nat.le_of_ble_eq_true rfl) ?_
  show xw_w (xk_k N) l tr_changeStack 0 [some (.ref 1), some (.int a1), some (.int (3 : Int32)), none, none, none] [] (n, u, σ, xr_0) (xe_t eu_u n u (fr_changeStack_3 a1 σ))
  unfold fr_changeStack_3
  refine xw_aload0 dr_changeStack_0 ?_
  refine xw_getR dr_changeStack_1 fl_r_19 (xl_n hn (by decide)) rfl r_1_1 ?_
  refine xw_getI dr_changeStack_4 fl_r_151 (by decide) (xl_n hn (by decide)) rfl ?_
  refine xw_li (fun v1 e_v1 => ?_)
  refine xw_istore3 dr_changeStack_7 (Nat.le_of_ble_eq_true rfl) rfl ?_
  refine xw_aload0 dr_changeStack_8 ?_
  refine xw_getR dr_changeStack_9 fl_r_19 (xl_n hn (by decide)) rfl r_1_1 ?_
  refine xw_getR dr_changeStack_12 fl_r_145 (xl_n hn (by decide)) rfl r_3_1 ?_
  refine xw_getI dr_changeStack_15 fl_r_142 (by decide) (xl_n hn (by decide)) rfl ?_
  refine xw_li (fun v2 e_v2 => ?_)
  refine xw_istore4 dr_changeStack_18 (Nat.le_of_ble_eq_true rfl) rfl ?_
  refine xw_iconst dr_changeStack_20 ki_0 ?_
  refine xw_istore5 dr_changeStack_21 (Nat.le_of_ble_eq_true rfl) rfl ?_
  refine xw_iload5 dr_changeStack_23 ?_
  refine xw_iload2 dr_changeStack_25 ?_
  refine xw_icmp_ge_f dr_changeStack_26 rfl (by decide) ?_
  refine xw_aload0 dr_changeStack_29 ?_
  refine xw_getR dr_changeStack_30 fl_r_52 (xl_n hn (by decide)) rfl r_1_8 ?_
  refine xw_iload5 dr_changeStack_33 ?_
  refine xw_aload0 dr_changeStack_35 ?_
  refine xw_iconst dr_changeStack_36 ki_1 ?_
  refine xw_iload3 dr_changeStack_37 ?_
  refine xw_iconst dr_changeStack_38 ki_2 ?_
  refine xw_iload5 dr_changeStack_39 ?_
  refine xw_imul dr_changeStack_41 ?_
  refine xw_iadd dr_changeStack_42 ?_
  refine xw_ldc dr_changeStack_43 kc_r_87 ?_
  refine xw_iand dr_changeStack_45 ?_
  refine xw_cTi dr_changeStack_46 (lk_r_changeStack_46 (xl_n hn (by decide)) rfl) ok_r_wordIn (mr_wordIn hl hn hJ) ⟨Nat.le_of_ble_eq_true rfl, Nat.le_of_ble_eq_true rfl⟩ rfl (fun b3 s4 h_s4 => ?_)
  have hJ_s4 : jx_J s4 := xj_o (jr_wordIn hJ) h_s4
  refine xw_iast dr_changeStack_49 (by decide) (xl_n hn (by decide)) rfl vc_0_7 cn_0 ?_
  refine xw_lw (fun s5 e_s5 => ?_)
  have hJ_s5 : jx_J s5 := by rw [e_s5]; exact (jx_u hJ_s4 (by decide))
  refine xw_iinc5 dr_changeStack_50 ic_0_1 (Nat.le_of_ble_eq_true rfl) rfl ?_
  refine xw_goto dr_changeStack_53 rfl ?_
  refine xw_iload5 dr_changeStack_23 ?_
  refine xw_iload2 dr_changeStack_25 ?_
  refine xw_icmp_ge_f dr_changeStack_26 rfl (by decide) ?_
  refine xw_aload0 dr_changeStack_29 ?_
  refine xw_getR dr_changeStack_30 fl_r_52 (xl_n hn (by decide)) rfl r_1_8 ?_
  refine xw_iload5 dr_changeStack_33 ?_
  refine xw_aload0 dr_changeStack_35 ?_
  refine xw_iconst dr_changeStack_36 ki_1 ?_
  refine xw_iload3 dr_changeStack_37 ?_
  refine xw_iconst dr_changeStack_38 ki_2 ?_
  refine xw_iload5 dr_changeStack_39 ?_
  refine xw_imul dr_changeStack_41 ?_
  refine xw_iadd dr_changeStack_42 ?_
  refine xw_ldc dr_changeStack_43 kc_r_87 ?_
  refine xw_iand dr_changeStack_45 ?_
  refine xw_cTi dr_changeStack_46 (lk_r_changeStack_46 (xl_n hn (by decide)) rfl) ok_r_wordIn (mr_wordIn hl hn hJ_s5) ⟨Nat.le_of_ble_eq_true rfl, Nat.le_of_ble_eq_true rfl⟩ rfl (fun b6 s7 h_s7 => ?_)
  have hJ_s7 : jx_J s7 := xj_o (jr_wordIn hJ_s5) h_s7
  refine xw_iast dr_changeStack_49 (by decide) (xl_n hn (by decide)) rfl vc_1_7 cn_1 ?_
  refine xw_lw (fun s8 e_s8 => ?_)
  have hJ_s8 : jx_J s8 := by rw [e_s8]; exact (jx_u hJ_s7 (by decide))
  refine xw_iinc5 dr_changeStack_50 ic_1_1 (Nat.le_of_ble_eq_true rfl) rfl ?_
  refine xw_goto dr_changeStack_53 rfl ?_
  refine xw_iload5 dr_changeStack_23 ?_
  refine xw_iload2 dr_changeStack_25 ?_
  refine xw_icmp_ge_f dr_changeStack_26 rfl (by decide) ?_
  refine xw_aload0 dr_changeStack_29 ?_
  refine xw_getR dr_changeStack_30 fl_r_52 (xl_n hn (by decide)) rfl r_1_8 ?_
  refine xw_iload5 dr_changeStack_33 ?_
  refine xw_aload0 dr_changeStack_35 ?_
  refine xw_iconst dr_changeStack_36 ki_1 ?_
  refine xw_iload3 dr_changeStack_37 ?_
  refine xw_iconst dr_changeStack_38 ki_2 ?_
  refine xw_iload5 dr_changeStack_39 ?_
  refine xw_imul dr_changeStack_41 ?_
  refine xw_iadd dr_changeStack_42 ?_
  refine xw_ldc dr_changeStack_43 kc_r_87 ?_
  refine xw_iand dr_changeStack_45 ?_
  refine xw_cTi dr_changeStack_46 (lk_r_changeStack_46 (xl_n hn (by decide)) rfl) ok_r_wordIn (mr_wordIn hl hn hJ_s8) ⟨Nat.le_of_ble_eq_true rfl, Nat.le_of_ble_eq_true rfl⟩ rfl (fun b9 s10 h_s10 => ?_)
  have hJ_s10 : jx_J s10 := xj_o (jr_wordIn hJ_s8) h_s10
  refine xw_iast dr_changeStack_49 (by decide) (xl_n hn (by decide)) rfl vc_2_7 cn_2 ?_
  refine xw_lw (fun s11 e_s11 => ?_)
  have hJ_s11 : jx_J s11 := by rw [e_s11]; exact (jx_u hJ_s10 (by decide))
  refine xw_iinc5 dr_changeStack_50 ic_2_1 (Nat.le_of_ble_eq_true rfl) rfl ?_
  refine xw_goto dr_changeStack_53 rfl ?_
  refine xw_iload5 dr_changeStack_23 ?_
  refine xw_iload2 dr_changeStack_25 ?_
  refine xw_icmp_ge_t dr_changeStack_26 rfl (by decide) ?_
  refine xw_aload0 dr_changeStack_56 ?_
  refine xw_getR dr_changeStack_57 fl_r_19 (xl_n hn (by decide)) rfl r_1_1 ?_
  refine xw_aload0 dr_changeStack_60 ?_
  refine xw_getR dr_changeStack_61 fl_r_42 (xl_n hn (by decide)) rfl r_1_5 ?_
  refine xw_getI dr_changeStack_64 fl_r_182 (by decide) (xl_n hn (by decide)) rfl ?_
  refine xw_putI dr_changeStack_67 fl_r_157 nf_3_6 (by decide) (xl_n hn (by decide)) rfl ?_
  refine xw_lw (fun s12 e_s12 => ?_)
  have hJ_s12 : jx_J s12 := by rw [e_s12]; exact (jx_u hJ_s11 (by decide))
  refine xw_aload0 dr_changeStack_70 ?_
  refine xw_getR dr_changeStack_71 fl_r_19 (xl_n hn (by decide)) rfl r_1_1 ?_
  refine xw_getR dr_changeStack_74 fl_r_145 (xl_n hn (by decide)) rfl r_3_1 ?_
  refine xw_aload0 dr_changeStack_77 ?_
  refine xw_getR dr_changeStack_78 fl_r_45 (xl_n hn (by decide)) rfl r_1_6 ?_
  refine xw_cW dr_changeStack_81 (lk_r_changeStack_81 (xl_n hn (by decide)) rfl) ok_d_copy (md_copy hl hn (by decide) (xl_n hn (by decide)) rfl (by decide) (xl_n hn (by decide)) rfl) ⟨Nat.le_of_ble_eq_true rfl, Nat.le_of_ble_eq_true rfl⟩ ?_
  refine xw_lw (fun s13 e_s13 => ?_)
  have hJ_s13 : jx_J s13 := by rw [e_s13]; exact (jd_copy (by decide) hJ_s12)
  refine xw_aload0 dr_changeStack_84 ?_
  refine xw_getR dr_changeStack_85 fl_r_19 (xl_n hn (by decide)) rfl r_1_1 ?_
  refine xw_iload1 dr_changeStack_88 ?_
  refine xw_putI dr_changeStack_89 fl_r_151 nf_3_3 (by decide) (xl_n hn (by decide)) rfl ?_
  refine xw_lw (fun s14 e_s14 => ?_)
  have hJ_s14 : jx_J s14 := by rw [e_s14]; exact (jx_u hJ_s13 (by decide))
  refine xw_aload0 dr_changeStack_92 ?_
  refine xw_iload4 dr_changeStack_93 ?_
  refine xw_cTu dr_changeStack_95 (lk_r_changeStack_95 (xl_n hn (by decide)) rfl) ok_r_pushWord (mr_pushWord hl hn hJ_s14) ⟨Nat.le_of_ble_eq_true rfl, Nat.le_of_ble_eq_true rfl⟩ rfl (fun b15 s16 h_s16 => ?_)
  have hJ_s16 : jx_J s16 := xj_o (jr_pushWord hJ_s14) h_s16
  refine xw_aload0 dr_changeStack_98 ?_
  refine xw_iload3 dr_changeStack_99 ?_
  refine xw_cTu dr_changeStack_100 (lk_r_changeStack_100 (xl_n hn (by decide)) rfl) ok_r_pushWord (mr_pushWord hl hn hJ_s16) ⟨Nat.le_of_ble_eq_true rfl, Nat.le_of_ble_eq_true rfl⟩ rfl (fun b17 s18 h_s18 => ?_)
  have hJ_s18 : jx_J s18 := xj_o (jr_pushWord hJ_s16) h_s18
  refine xw_iload2 dr_changeStack_103 ?_
  refine xw_iconst dr_changeStack_104 ki_1 ?_
  refine xw_isubc dr_changeStack_105 sb_3_1 ?_
  refine xw_istore5 dr_changeStack_106 (Nat.le_of_ble_eq_true rfl) rfl ?_
  refine xw_iload5 dr_changeStack_108 ?_
  refine xw_if_lt_f dr_changeStack_110 rfl (by decide) ?_
  refine xw_aload0 dr_changeStack_113 ?_
  refine xw_aload0 dr_changeStack_114 ?_
  refine xw_getR dr_changeStack_115 fl_r_52 (xl_n hn (by decide)) rfl r_1_8 ?_
  refine xw_iload5 dr_changeStack_118 ?_
  refine xw_iald dr_changeStack_120 (xl_n hn (by decide)) rfl vc_2_7 cn_2 ?_
  refine xw_cTu dr_changeStack_121 (lk_r_changeStack_121 (xl_n hn (by decide)) rfl) ok_r_pushWord (mr_pushWord hl hn hJ_s18) ⟨Nat.le_of_ble_eq_true rfl, Nat.le_of_ble_eq_true rfl⟩ rfl (fun b19 s20 h_s20 => ?_)
  have hJ_s20 : jx_J s20 := xj_o (jr_pushWord hJ_s18) h_s20
  refine xw_iinc5 dr_changeStack_124 ic_2_m1 (Nat.le_of_ble_eq_true rfl) rfl ?_
  refine xw_goto dr_changeStack_127 rfl ?_
  refine xw_iload5 dr_changeStack_108 ?_
  refine xw_if_lt_f dr_changeStack_110 rfl (by decide) ?_
  refine xw_aload0 dr_changeStack_113 ?_
  refine xw_aload0 dr_changeStack_114 ?_
  refine xw_getR dr_changeStack_115 fl_r_52 (xl_n hn (by decide)) rfl r_1_8 ?_
  refine xw_iload5 dr_changeStack_118 ?_
  refine xw_iald dr_changeStack_120 (xl_n hn (by decide)) rfl vc_1_7 cn_1 ?_
  refine xw_cTu dr_changeStack_121 (lk_r_changeStack_121 (xl_n hn (by decide)) rfl) ok_r_pushWord (mr_pushWord hl hn hJ_s20) ⟨Nat.le_of_ble_eq_true rfl, Nat.le_of_ble_eq_true rfl⟩ rfl (fun b21 s22 h_s22 => ?_)
  have hJ_s22 : jx_J s22 := xj_o (jr_pushWord hJ_s20) h_s22
  refine xw_iinc5 dr_changeStack_124 ic_1_m1 (Nat.le_of_ble_eq_true rfl) rfl ?_
  refine xw_goto dr_changeStack_127 rfl ?_
  refine xw_iload5 dr_changeStack_108 ?_
  refine xw_if_lt_f dr_changeStack_110 rfl (by decide) ?_
  refine xw_aload0 dr_changeStack_113 ?_
  refine xw_aload0 dr_changeStack_114 ?_
  refine xw_getR dr_changeStack_115 fl_r_52 (xl_n hn (by decide)) rfl r_1_8 ?_
  refine xw_iload5 dr_changeStack_118 ?_
  refine xw_iald dr_changeStack_120 (xl_n hn (by decide)) rfl vc_0_7 cn_0 ?_
  refine xw_cTu dr_changeStack_121 (lk_r_changeStack_121 (xl_n hn (by decide)) rfl) ok_r_pushWord (mr_pushWord hl hn hJ_s22) ⟨Nat.le_of_ble_eq_true rfl, Nat.le_of_ble_eq_true rfl⟩ rfl (fun b23 s24 h_s24 => ?_)
  have hJ_s24 : jx_J s24 := xj_o (jr_pushWord hJ_s22) h_s24
  refine xw_iinc5 dr_changeStack_124 ic_0_m1 (Nat.le_of_ble_eq_true rfl) rfl ?_
  refine xw_goto dr_changeStack_127 rfl ?_
  refine xw_iload5 dr_changeStack_108 ?_
  refine xw_if_lt_t dr_changeStack_110 rfl (by decide) ?_
  exact xw_vret dr_changeStack_130 rfl
theorem jr_changeStack_3 {a1 : Int32} {σ : xs_S} (hJ : jx_J σ) : jx_J (fr_changeStack_3 a1 σ).2 := by
  unfold fr_changeStack_3
  refine xj_l (fun v1 e_v1 => ?_)
  refine xj_l (fun v2 e_v2 => ?_)
  refine xj_b (jr_wordIn hJ) (fun b3 s4 h_s4 hJ_s4 => ?_)
  refine xj_l (fun s5 e_s5 => ?_)
  have hJ_s5 : jx_J s5 := by rw [e_s5]; exact (jx_u hJ_s4 (by decide))
  refine xj_b (jr_wordIn hJ_s5) (fun b6 s7 h_s7 hJ_s7 => ?_)
  refine xj_l (fun s8 e_s8 => ?_)
  have hJ_s8 : jx_J s8 := by rw [e_s8]; exact (jx_u hJ_s7 (by decide))
  refine xj_b (jr_wordIn hJ_s8) (fun b9 s10 h_s10 hJ_s10 => ?_)
  refine xj_l (fun s11 e_s11 => ?_)
  have hJ_s11 : jx_J s11 := by rw [e_s11]; exact (jx_u hJ_s10 (by decide))
  refine xj_l (fun s12 e_s12 => ?_)
  have hJ_s12 : jx_J s12 := by rw [e_s12]; exact (jx_u hJ_s11 (by decide))
  refine xj_l (fun s13 e_s13 => ?_)
  have hJ_s13 : jx_J s13 := by rw [e_s13]; exact (jd_copy (by decide) hJ_s12)
  refine xj_l (fun s14 e_s14 => ?_)
  have hJ_s14 : jx_J s14 := by rw [e_s14]; exact (jx_u hJ_s13 (by decide))
  refine xj_b (jr_pushWord hJ_s14) (fun b15 s16 h_s16 hJ_s16 => ?_)
  refine xj_b (jr_pushWord hJ_s16) (fun b17 s18 h_s18 hJ_s18 => ?_)
  refine xj_b (jr_pushWord hJ_s18) (fun b19 s20 h_s20 hJ_s20 => ?_)
  refine xj_b (jr_pushWord hJ_s20) (fun b21 s22 h_s22 hJ_s22 => ?_)
  refine xj_b (jr_pushWord hJ_s22) (fun b23 s24 h_s24 hJ_s24 => ?_)
  exact hJ_s24
def fr_changeStack_4 (a1 : Int32) (σ : xs_S) : xp_P Unit := xl_l ((σ 3 3)) (fun v1 => xl_l ((σ 5 0)) (fun v2 => xp_b (fr_wordIn (1 : Int32) ((v1 + ((2 : Int32) * (0 : Int32))) &&& (65535 : Int32)) σ) (fun b3 s4 => xl_l ((xu_u s4 17 0 b3)) (fun s5 => xp_b (fr_wordIn (1 : Int32) ((v1 + ((2 : Int32) * (1 : Int32))) &&& (65535 : Int32)) s5) (fun b6 s7 => xl_l ((xu_u s7 17 1 b6)) (fun s8 => xp_b (fr_wordIn (1 : Int32) ((v1 + ((2 : Int32) * (2 : Int32))) &&& (65535 : Int32)) s8) (fun b9 s10 => xl_l ((xu_u s10 17 2 b9)) (fun s11 => xp_b (fr_wordIn (1 : Int32) ((v1 + ((2 : Int32) * (3 : Int32))) &&& (65535 : Int32)) s11) (fun b12 s13 => xl_l ((xu_u s13 17 3 b12)) (fun s14 => xl_l ((xu_u s14 3 6 (s14 14 4))) (fun s15 => xl_l ((fd_copy 5 15 s15)) (fun s16 => xl_l ((xu_u s16 3 3 a1)) (fun s17 => xp_b (fr_pushWord v2 s17) (fun b18 s19 => xp_b (fr_pushWord v1 s19) (fun b20 s21 => xp_b (fr_pushWord (s21 17 3) s21) (fun b22 s23 => xp_b (fr_pushWord (s23 17 2) s23) (fun b24 s25 => xp_b (fr_pushWord (s25 17 1) s25) (fun b26 s27 => xp_b (fr_pushWord (s27 17 0) s27) (fun b28 s29 => (some (), s29))))))))))))))))))))
set_option maxRecDepth 100000 in
set_option maxHeartbeats 4000000 in
theorem mr_changeStack_4 {l : Launch} {N n u : Nat} {a1 : Int32} {σ : xs_S} (hl : l.stackTraces = false) (hn : 29 ≤ n) (hJ : jx_J σ) : xm_m (xk_k N) l tr_changeStack [.ref 1, .int a1, .int (4 : Int32)] (n, u, σ, xr_0) (xe_t eu_u n u (fr_changeStack_4 a1 σ)) := by
  refine xm_of hl ok_r_changeStack (Nat.le_of_ble_eq_true rfl) ?_
  show xw_w (xk_k N) l tr_changeStack 0 [some (.ref 1), some (.int a1), some (.int (4 : Int32)), none, none, none] [] (n, u, σ, xr_0) (xe_t eu_u n u (fr_changeStack_4 a1 σ))
  unfold fr_changeStack_4
  refine xw_aload0 dr_changeStack_0 ?_
  refine xw_getR dr_changeStack_1 fl_r_19 (xl_n hn (by decide)) rfl r_1_1 ?_
  refine xw_getI dr_changeStack_4 fl_r_151 (by decide) (xl_n hn (by decide)) rfl ?_
  refine xw_li (fun v1 e_v1 => ?_)
  refine xw_istore3 dr_changeStack_7 (Nat.le_of_ble_eq_true rfl) rfl ?_
  refine xw_aload0 dr_changeStack_8 ?_
  refine xw_getR dr_changeStack_9 fl_r_19 (xl_n hn (by decide)) rfl r_1_1 ?_
  refine xw_getR dr_changeStack_12 fl_r_145 (xl_n hn (by decide)) rfl r_3_1 ?_
  refine xw_getI dr_changeStack_15 fl_r_142 (by decide) (xl_n hn (by decide)) rfl ?_
  refine xw_li (fun v2 e_v2 => ?_)
  refine xw_istore4 dr_changeStack_18 (Nat.le_of_ble_eq_true rfl) rfl ?_
  refine xw_iconst dr_changeStack_20 ki_0 ?_
  refine xw_istore5 dr_changeStack_21 (Nat.le_of_ble_eq_true rfl) rfl ?_
  refine xw_iload5 dr_changeStack_23 ?_
  refine xw_iload2 dr_changeStack_25 ?_
  refine xw_icmp_ge_f dr_changeStack_26 rfl (by decide) ?_
  refine xw_aload0 dr_changeStack_29 ?_
  refine xw_getR dr_changeStack_30 fl_r_52 (xl_n hn (by decide)) rfl r_1_8 ?_
  refine xw_iload5 dr_changeStack_33 ?_
  refine xw_aload0 dr_changeStack_35 ?_
  refine xw_iconst dr_changeStack_36 ki_1 ?_
  refine xw_iload3 dr_changeStack_37 ?_
  refine xw_iconst dr_changeStack_38 ki_2 ?_
  refine xw_iload5 dr_changeStack_39 ?_
  refine xw_imul dr_changeStack_41 ?_
  refine xw_iadd dr_changeStack_42 ?_
  refine xw_ldc dr_changeStack_43 kc_r_87 ?_
  refine xw_iand dr_changeStack_45 ?_
  refine xw_cTi dr_changeStack_46 (lk_r_changeStack_46 (xl_n hn (by decide)) rfl) ok_r_wordIn (mr_wordIn hl hn hJ) ⟨Nat.le_of_ble_eq_true rfl, Nat.le_of_ble_eq_true rfl⟩ rfl (fun b3 s4 h_s4 => ?_)
  have hJ_s4 : jx_J s4 := xj_o (jr_wordIn hJ) h_s4
  refine xw_iast dr_changeStack_49 (by decide) (xl_n hn (by decide)) rfl vc_0_7 cn_0 ?_
  refine xw_lw (fun s5 e_s5 => ?_)
  have hJ_s5 : jx_J s5 := by rw [e_s5]; exact (jx_u hJ_s4 (by decide))
  refine xw_iinc5 dr_changeStack_50 ic_0_1 (Nat.le_of_ble_eq_true rfl) rfl ?_
  refine xw_goto dr_changeStack_53 rfl ?_
  refine xw_iload5 dr_changeStack_23 ?_
  refine xw_iload2 dr_changeStack_25 ?_
  refine xw_icmp_ge_f dr_changeStack_26 rfl (by decide) ?_
  refine xw_aload0 dr_changeStack_29 ?_
  refine xw_getR dr_changeStack_30 fl_r_52 (xl_n hn (by decide)) rfl r_1_8 ?_
  refine xw_iload5 dr_changeStack_33 ?_
  refine xw_aload0 dr_changeStack_35 ?_
  refine xw_iconst dr_changeStack_36 ki_1 ?_
  refine xw_iload3 dr_changeStack_37 ?_
  refine xw_iconst dr_changeStack_38 ki_2 ?_
  refine xw_iload5 dr_changeStack_39 ?_
  refine xw_imul dr_changeStack_41 ?_
  refine xw_iadd dr_changeStack_42 ?_
  refine xw_ldc dr_changeStack_43 kc_r_87 ?_
  refine xw_iand dr_changeStack_45 ?_
  refine xw_cTi dr_changeStack_46 (lk_r_changeStack_46 (xl_n hn (by decide)) rfl) ok_r_wordIn (mr_wordIn hl hn hJ_s5) ⟨Nat.le_of_ble_eq_true rfl, Nat.le_of_ble_eq_true rfl⟩ rfl (fun b6 s7 h_s7 => ?_)
  have hJ_s7 : jx_J s7 := xj_o (jr_wordIn hJ_s5) h_s7
  refine xw_iast dr_changeStack_49 (by decide) (xl_n hn (by decide)) rfl vc_1_7 cn_1 ?_
  refine xw_lw (fun s8 e_s8 => ?_)
  have hJ_s8 : jx_J s8 := by rw [e_s8]; exact (jx_u hJ_s7 (by decide))
  refine xw_iinc5 dr_changeStack_50 ic_1_1 (Nat.le_of_ble_eq_true rfl) rfl ?_
  refine xw_goto dr_changeStack_53 rfl ?_
  refine xw_iload5 dr_changeStack_23 ?_
  refine xw_iload2 dr_changeStack_25 ?_
  refine xw_icmp_ge_f dr_changeStack_26 rfl (by decide) ?_
  refine xw_aload0 dr_changeStack_29 ?_
  refine xw_getR dr_changeStack_30 fl_r_52 (xl_n hn (by decide)) rfl r_1_8 ?_
  refine xw_iload5 dr_changeStack_33 ?_
  refine xw_aload0 dr_changeStack_35 ?_
  refine xw_iconst dr_changeStack_36 ki_1 ?_
  refine xw_iload3 dr_changeStack_37 ?_
  refine xw_iconst dr_changeStack_38 ki_2 ?_
  refine xw_iload5 dr_changeStack_39 ?_
  refine xw_imul dr_changeStack_41 ?_
  refine xw_iadd dr_changeStack_42 ?_
  refine xw_ldc dr_changeStack_43 kc_r_87 ?_
  refine xw_iand dr_changeStack_45 ?_
  refine xw_cTi dr_changeStack_46 (lk_r_changeStack_46 (xl_n hn (by decide)) rfl) ok_r_wordIn (mr_wordIn hl hn hJ_s8) ⟨Nat.le_of_ble_eq_true rfl, Nat.le_of_ble_eq_true rfl⟩ rfl (fun b9 s10 h_s10 => ?_)
  have hJ_s10 : jx_J s10 := xj_o (jr_wordIn hJ_s8) h_s10
  refine xw_iast dr_changeStack_49 (by decide) (xl_n hn (by decide)) rfl vc_2_7 cn_2 ?_
  refine xw_lw (fun s11 e_s11 => ?_)
  have hJ_s11 : jx_J s11 := by rw [e_s11]; exact (jx_u hJ_s10 (by decide))
  refine xw_iinc5 dr_changeStack_50 ic_2_1 (Nat.le_of_ble_eq_true rfl) rfl ?_
  refine xw_goto dr_changeStack_53 rfl ?_
  refine xw_iload5 dr_changeStack_23 ?_
  refine xw_iload2 dr_changeStack_25 ?_
  refine xw_icmp_ge_f dr_changeStack_26 rfl (by decide) ?_
  refine xw_aload0 dr_changeStack_29 ?_
  refine xw_getR dr_changeStack_30 fl_r_52 (xl_n hn (by decide)) rfl r_1_8 ?_
  refine xw_iload5 dr_changeStack_33 ?_
  refine xw_aload0 dr_changeStack_35 ?_
  refine xw_iconst dr_changeStack_36 ki_1 ?_
  refine xw_iload3 dr_changeStack_37 ?_
  refine xw_iconst dr_changeStack_38 ki_2 ?_
  refine xw_iload5 dr_changeStack_39 ?_
  refine xw_imul dr_changeStack_41 ?_
  refine xw_iadd dr_changeStack_42 ?_
  refine xw_ldc dr_changeStack_43 kc_r_87 ?_
  refine xw_iand dr_changeStack_45 ?_
  refine xw_cTi dr_changeStack_46 (lk_r_changeStack_46 (xl_n hn (by decide)) rfl) ok_r_wordIn (mr_wordIn hl hn hJ_s11) ⟨Nat.le_of_ble_eq_true rfl, Nat.le_of_ble_eq_true rfl⟩ rfl (fun b12 s13 h_s13 => ?_)
  have hJ_s13 : jx_J s13 := xj_o (jr_wordIn hJ_s11) h_s13
  refine xw_iast dr_changeStack_49 (by decide) (xl_n hn (by decide)) rfl vc_3_7 cn_3 ?_
  refine xw_lw (fun s14 e_s14 => ?_)
  have hJ_s14 : jx_J s14 := by rw [e_s14]; exact (jx_u hJ_s13 (by decide))
  refine xw_iinc5 dr_changeStack_50 ic_3_1 (Nat.le_of_ble_eq_true rfl) rfl ?_
  refine xw_goto dr_changeStack_53 rfl ?_
  refine xw_iload5 dr_changeStack_23 ?_
  refine xw_iload2 dr_changeStack_25 ?_
  refine xw_icmp_ge_t dr_changeStack_26 rfl (by decide) ?_
  refine xw_aload0 dr_changeStack_56 ?_
  refine xw_getR dr_changeStack_57 fl_r_19 (xl_n hn (by decide)) rfl r_1_1 ?_
  refine xw_aload0 dr_changeStack_60 ?_
  refine xw_getR dr_changeStack_61 fl_r_42 (xl_n hn (by decide)) rfl r_1_5 ?_
  refine xw_getI dr_changeStack_64 fl_r_182 (by decide) (xl_n hn (by decide)) rfl ?_
  refine xw_putI dr_changeStack_67 fl_r_157 nf_3_6 (by decide) (xl_n hn (by decide)) rfl ?_
  refine xw_lw (fun s15 e_s15 => ?_)
  have hJ_s15 : jx_J s15 := by rw [e_s15]; exact (jx_u hJ_s14 (by decide))
  refine xw_aload0 dr_changeStack_70 ?_
  refine xw_getR dr_changeStack_71 fl_r_19 (xl_n hn (by decide)) rfl r_1_1 ?_
  refine xw_getR dr_changeStack_74 fl_r_145 (xl_n hn (by decide)) rfl r_3_1 ?_
  refine xw_aload0 dr_changeStack_77 ?_
  refine xw_getR dr_changeStack_78 fl_r_45 (xl_n hn (by decide)) rfl r_1_6 ?_
  refine xw_cW dr_changeStack_81 (lk_r_changeStack_81 (xl_n hn (by decide)) rfl) ok_d_copy (md_copy hl hn (by decide) (xl_n hn (by decide)) rfl (by decide) (xl_n hn (by decide)) rfl) ⟨Nat.le_of_ble_eq_true rfl, Nat.le_of_ble_eq_true rfl⟩ ?_
  refine xw_lw (fun s16 e_s16 => ?_)
  have hJ_s16 : jx_J s16 := by rw [e_s16]; exact (jd_copy (by decide) hJ_s15)
  refine xw_aload0 dr_changeStack_84 ?_
  refine xw_getR dr_changeStack_85 fl_r_19 (xl_n hn (by decide)) rfl r_1_1 ?_
  refine xw_iload1 dr_changeStack_88 ?_
  refine xw_putI dr_changeStack_89 fl_r_151 nf_3_3 (by decide) (xl_n hn (by decide)) rfl ?_
  refine xw_lw (fun s17 e_s17 => ?_)
  have hJ_s17 : jx_J s17 := by rw [e_s17]; exact (jx_u hJ_s16 (by decide))
  refine xw_aload0 dr_changeStack_92 ?_
  refine xw_iload4 dr_changeStack_93 ?_
  refine xw_cTu dr_changeStack_95 (lk_r_changeStack_95 (xl_n hn (by decide)) rfl) ok_r_pushWord (mr_pushWord hl hn hJ_s17) ⟨Nat.le_of_ble_eq_true rfl, Nat.le_of_ble_eq_true rfl⟩ rfl (fun b18 s19 h_s19 => ?_)
  have hJ_s19 : jx_J s19 := xj_o (jr_pushWord hJ_s17) h_s19
  refine xw_aload0 dr_changeStack_98 ?_
  refine xw_iload3 dr_changeStack_99 ?_
  refine xw_cTu dr_changeStack_100 (lk_r_changeStack_100 (xl_n hn (by decide)) rfl) ok_r_pushWord (mr_pushWord hl hn hJ_s19) ⟨Nat.le_of_ble_eq_true rfl, Nat.le_of_ble_eq_true rfl⟩ rfl (fun b20 s21 h_s21 => ?_)
  have hJ_s21 : jx_J s21 := xj_o (jr_pushWord hJ_s19) h_s21
  refine xw_iload2 dr_changeStack_103 ?_
  refine xw_iconst dr_changeStack_104 ki_1 ?_
  refine xw_isubc dr_changeStack_105 sb_4_1 ?_
  refine xw_istore5 dr_changeStack_106 (Nat.le_of_ble_eq_true rfl) rfl ?_
  refine xw_iload5 dr_changeStack_108 ?_
  refine xw_if_lt_f dr_changeStack_110 rfl (by decide) ?_
  refine xw_aload0 dr_changeStack_113 ?_
  refine xw_aload0 dr_changeStack_114 ?_
  refine xw_getR dr_changeStack_115 fl_r_52 (xl_n hn (by decide)) rfl r_1_8 ?_
  refine xw_iload5 dr_changeStack_118 ?_
  refine xw_iald dr_changeStack_120 (xl_n hn (by decide)) rfl vc_3_7 cn_3 ?_
  refine xw_cTu dr_changeStack_121 (lk_r_changeStack_121 (xl_n hn (by decide)) rfl) ok_r_pushWord (mr_pushWord hl hn hJ_s21) ⟨Nat.le_of_ble_eq_true rfl, Nat.le_of_ble_eq_true rfl⟩ rfl (fun b22 s23 h_s23 => ?_)
  have hJ_s23 : jx_J s23 := xj_o (jr_pushWord hJ_s21) h_s23
  refine xw_iinc5 dr_changeStack_124 ic_3_m1 (Nat.le_of_ble_eq_true rfl) rfl ?_
  refine xw_goto dr_changeStack_127 rfl ?_
  refine xw_iload5 dr_changeStack_108 ?_
  refine xw_if_lt_f dr_changeStack_110 rfl (by decide) ?_
  refine xw_aload0 dr_changeStack_113 ?_
  refine xw_aload0 dr_changeStack_114 ?_
  refine xw_getR dr_changeStack_115 fl_r_52 (xl_n hn (by decide)) rfl r_1_8 ?_
  refine xw_iload5 dr_changeStack_118 ?_
  refine xw_iald dr_changeStack_120 (xl_n hn (by decide)) rfl vc_2_7 cn_2 ?_
  refine xw_cTu dr_changeStack_121 (lk_r_changeStack_121 (xl_n hn (by decide)) rfl) ok_r_pushWord (mr_pushWord hl hn hJ_s23) ⟨Nat.le_of_ble_eq_true rfl, Nat.le_of_ble_eq_true rfl⟩ rfl (fun b24 s25 h_s25 => ?_)
  have hJ_s25 : jx_J s25 := xj_o (jr_pushWord hJ_s23) h_s25
  refine xw_iinc5 dr_changeStack_124 ic_2_m1 (Nat.le_of_ble_eq_true rfl) rfl ?_
  refine xw_goto dr_changeStack_127 rfl ?_
  refine xw_iload5 dr_changeStack_108 ?_
  refine xw_if_lt_f dr_changeStack_110 rfl (by decide) ?_
  refine xw_aload0 dr_changeStack_113 ?_
  refine xw_aload0 dr_changeStack_114 ?_
  refine xw_getR dr_changeStack_115 fl_r_52 (xl_n hn (by decide)) rfl r_1_8 ?_
  refine xw_iload5 dr_changeStack_118 ?_
  refine xw_iald dr_changeStack_120 (xl_n hn (by decide)) rfl vc_1_7 cn_1 ?_
  refine xw_cTu dr_changeStack_121 (lk_r_changeStack_121 (xl_n hn (by decide)) rfl) ok_r_pushWord (mr_pushWord hl hn hJ_s25) ⟨Nat.le_of_ble_eq_true rfl, Nat.le_of_ble_eq_true rfl⟩ rfl (fun b26 s27 h_s27 => ?_)
  have hJ_s27 : jx_J s27 := xj_o (jr_pushWord hJ_s25) h_s27
  refine xw_iinc5 dr_changeStack_124 ic_1_m1 (Nat.le_of_ble_eq_true rfl) rfl ?_
  refine xw_goto dr_changeStack_127 rfl ?_
  refine xw_iload5 dr_changeStack_108 ?_
  refine xw_if_lt_f dr_changeStack_110 rfl (by decide) ?_
  refine xw_aload0 dr_changeStack_113 ?_
  refine xw_aload0 dr_changeStack_114 ?_
  refine xw_getR dr_changeStack_115 fl_r_52 (xl_n hn (by decide)) rfl r_1_8 ?_
  refine xw_iload5 dr_changeStack_118 ?_
  refine xw_iald dr_changeStack_120 (xl_n hn (by decide)) rfl vc_0_7 cn_0 ?_
  refine xw_cTu dr_changeStack_121 (lk_r_changeStack_121 (xl_n hn (by decide)) rfl) ok_r_pushWord (mr_pushWord hl hn hJ_s27) ⟨Nat.le_of_ble_eq_true rfl, Nat.le_of_ble_eq_true rfl⟩ rfl (fun b28 s29 h_s29 => ?_)
  have hJ_s29 : jx_J s29 := xj_o (jr_pushWord hJ_s27) h_s29
  refine xw_iinc5 dr_changeStack_124 ic_0_m1 (Nat.le_of_ble_eq_true rfl) rfl ?_
  refine xw_goto dr_changeStack_127 rfl ?_
  refine xw_iload5 dr_changeStack_108 ?_
  refine xw_if_lt_t dr_changeStack_110 rfl (by decide) ?_
  exact xw_vret dr_changeStack_130 rfl
theorem jr_changeStack_4 {a1 : Int32} {σ : xs_S} (hJ : jx_J σ) : jx_J (fr_changeStack_4 a1 σ).2 := by
  unfold fr_changeStack_4
  refine xj_l (fun v1 e_v1 => ?_)
  refine xj_l (fun v2 e_v2 => ?_)
  refine xj_b (jr_wordIn hJ) (fun b3 s4 h_s4 hJ_s4 => ?_)
  refine xj_l (fun s5 e_s5 => ?_)
  have hJ_s5 : jx_J s5 := by rw [e_s5]; exact (jx_u hJ_s4 (by decide))
  refine xj_b (jr_wordIn hJ_s5) (fun b6 s7 h_s7 hJ_s7 => ?_)
  refine xj_l (fun s8 e_s8 => ?_)
  have hJ_s8 : jx_J s8 := by rw [e_s8]; exact (jx_u hJ_s7 (by decide))
  refine xj_b (jr_wordIn hJ_s8) (fun b9 s10 h_s10 hJ_s10 => ?_)
  refine xj_l (fun s11 e_s11 => ?_)
  have hJ_s11 : jx_J s11 := by rw [e_s11]; exact (jx_u hJ_s10 (by decide))
  refine xj_b (jr_wordIn hJ_s11) (fun b12 s13 h_s13 hJ_s13 => ?_)
  refine xj_l (fun s14 e_s14 => ?_)
  have hJ_s14 : jx_J s14 := by rw [e_s14]; exact (jx_u hJ_s13 (by decide))
  refine xj_l (fun s15 e_s15 => ?_)
  have hJ_s15 : jx_J s15 := by rw [e_s15]; exact (jx_u hJ_s14 (by decide))
  refine xj_l (fun s16 e_s16 => ?_)
  have hJ_s16 : jx_J s16 := by rw [e_s16]; exact (jd_copy (by decide) hJ_s15)
  refine xj_l (fun s17 e_s17 => ?_)
  have hJ_s17 : jx_J s17 := by rw [e_s17]; exact (jx_u hJ_s16 (by decide))
  refine xj_b (jr_pushWord hJ_s17) (fun b18 s19 h_s19 hJ_s19 => ?_)
  refine xj_b (jr_pushWord hJ_s19) (fun b20 s21 h_s21 hJ_s21 => ?_)
  refine xj_b (jr_pushWord hJ_s21) (fun b22 s23 h_s23 hJ_s23 => ?_)
  refine xj_b (jr_pushWord hJ_s23) (fun b24 s25 h_s25 hJ_s25 => ?_)
  refine xj_b (jr_pushWord hJ_s25) (fun b26 s27 h_s27 hJ_s27 => ?_)
  refine xj_b (jr_pushWord hJ_s27) (fun b28 s29 h_s29 hJ_s29 => ?_)
  exact hJ_s29
def fr_changeStack_5 (a1 : Int32) (σ : xs_S) : xp_P Unit := xl_l ((σ 3 3)) (fun v1 => xl_l ((σ 5 0)) (fun v2 => xp_b (fr_wordIn (1 : Int32) ((v1 + ((2 : Int32) * (0 : Int32))) &&& (65535 : Int32)) σ) (fun b3 s4 => xl_l ((xu_u s4 17 0 b3)) (fun s5 => xp_b (fr_wordIn (1 : Int32) ((v1 + ((2 : Int32) * (1 : Int32))) &&& (65535 : Int32)) s5) (fun b6 s7 => xl_l ((xu_u s7 17 1 b6)) (fun s8 => xp_b (fr_wordIn (1 : Int32) ((v1 + ((2 : Int32) * (2 : Int32))) &&& (65535 : Int32)) s8) (fun b9 s10 => xl_l ((xu_u s10 17 2 b9)) (fun s11 => xp_b (fr_wordIn (1 : Int32) ((v1 + ((2 : Int32) * (3 : Int32))) &&& (65535 : Int32)) s11) (fun b12 s13 => xl_l ((xu_u s13 17 3 b12)) (fun s14 => xp_b (fr_wordIn (1 : Int32) ((v1 + ((2 : Int32) * (4 : Int32))) &&& (65535 : Int32)) s14) (fun b15 s16 => xl_l ((xu_u s16 17 4 b15)) (fun s17 => xl_l ((xu_u s17 3 6 (s17 14 4))) (fun s18 => xl_l ((fd_copy 5 15 s18)) (fun s19 => xl_l ((xu_u s19 3 3 a1)) (fun s20 => xp_b (fr_pushWord v2 s20) (fun b21 s22 => xp_b (fr_pushWord v1 s22) (fun b23 s24 => xp_b (fr_pushWord (s24 17 4) s24) (fun b25 s26 => xp_b (fr_pushWord (s26 17 3) s26) (fun b27 s28 => xp_b (fr_pushWord (s28 17 2) s28) (fun b29 s30 => xp_b (fr_pushWord (s30 17 1) s30) (fun b31 s32 => xp_b (fr_pushWord (s32 17 0) s32) (fun b33 s34 => (some (), s34)))))))))))))))))))))))
set_option maxRecDepth 100000 in
set_option maxHeartbeats 4000000 in
theorem mr_changeStack_5 {l : Launch} {N n u : Nat} {a1 : Int32} {σ : xs_S} (hl : l.stackTraces = false) (hn : 29 ≤ n) (hJ : jx_J σ) : xm_m (xk_k N) l tr_changeStack [.ref 1, .int a1, .int (5 : Int32)] (n, u, σ, xr_0) (xe_t eu_u n u (fr_changeStack_5 a1 σ)) := by
  refine xm_of hl ok_r_changeStack (Nat.le_of_ble_eq_true rfl) ?_
  show xw_w (xk_k N) l tr_changeStack 0 [some (.ref 1), some (.int a1), some (.int (5 : Int32)), none, none, none] [] (n, u, σ, xr_0) (xe_t eu_u n u (fr_changeStack_5 a1 σ))
  unfold fr_changeStack_5
  refine xw_aload0 dr_changeStack_0 ?_
  refine xw_getR dr_changeStack_1 fl_r_19 (xl_n hn (by decide)) rfl r_1_1 ?_
  refine xw_getI dr_changeStack_4 fl_r_151 (by decide) (xl_n hn (by decide)) rfl ?_
  refine xw_li (fun v1 e_v1 => ?_)
  refine xw_istore3 dr_changeStack_7 (Nat.le_of_ble_eq_true rfl) rfl ?_
  refine xw_aload0 dr_changeStack_8 ?_
  refine xw_getR dr_changeStack_9 fl_r_19 (xl_n hn (by decide)) rfl r_1_1 ?_
  refine xw_getR dr_changeStack_12 fl_r_145 (xl_n hn (by decide)) rfl r_3_1 ?_
  refine xw_getI dr_changeStack_15 fl_r_142 (by decide) (xl_n hn (by decide)) rfl ?_
  refine xw_li (fun v2 e_v2 => ?_)
  refine xw_istore4 dr_changeStack_18 (Nat.le_of_ble_eq_true rfl) rfl ?_
  refine xw_iconst dr_changeStack_20 ki_0 ?_
  refine xw_istore5 dr_changeStack_21 (Nat.le_of_ble_eq_true rfl) rfl ?_
  refine xw_iload5 dr_changeStack_23 ?_
  refine xw_iload2 dr_changeStack_25 ?_
  refine xw_icmp_ge_f dr_changeStack_26 rfl (by decide) ?_
  refine xw_aload0 dr_changeStack_29 ?_
  refine xw_getR dr_changeStack_30 fl_r_52 (xl_n hn (by decide)) rfl r_1_8 ?_
  refine xw_iload5 dr_changeStack_33 ?_
  refine xw_aload0 dr_changeStack_35 ?_
  refine xw_iconst dr_changeStack_36 ki_1 ?_
  refine xw_iload3 dr_changeStack_37 ?_
  refine xw_iconst dr_changeStack_38 ki_2 ?_
  refine xw_iload5 dr_changeStack_39 ?_
  refine xw_imul dr_changeStack_41 ?_
  refine xw_iadd dr_changeStack_42 ?_
  refine xw_ldc dr_changeStack_43 kc_r_87 ?_
  refine xw_iand dr_changeStack_45 ?_
  refine xw_cTi dr_changeStack_46 (lk_r_changeStack_46 (xl_n hn (by decide)) rfl) ok_r_wordIn (mr_wordIn hl hn hJ) ⟨Nat.le_of_ble_eq_true rfl, Nat.le_of_ble_eq_true rfl⟩ rfl (fun b3 s4 h_s4 => ?_)
  have hJ_s4 : jx_J s4 := xj_o (jr_wordIn hJ) h_s4
  refine xw_iast dr_changeStack_49 (by decide) (xl_n hn (by decide)) rfl vc_0_7 cn_0 ?_
  refine xw_lw (fun s5 e_s5 => ?_)
  have hJ_s5 : jx_J s5 := by rw [e_s5]; exact (jx_u hJ_s4 (by decide))
  refine xw_iinc5 dr_changeStack_50 ic_0_1 (Nat.le_of_ble_eq_true rfl) rfl ?_
  refine xw_goto dr_changeStack_53 rfl ?_
  refine xw_iload5 dr_changeStack_23 ?_
  refine xw_iload2 dr_changeStack_25 ?_
  refine xw_icmp_ge_f dr_changeStack_26 rfl (by decide) ?_
  refine xw_aload0 dr_changeStack_29 ?_
  refine xw_getR dr_changeStack_30 fl_r_52 (xl_n hn (by decide)) rfl r_1_8 ?_
  refine xw_iload5 dr_changeStack_33 ?_
  refine xw_aload0 dr_changeStack_35 ?_
  refine xw_iconst dr_changeStack_36 ki_1 ?_
  refine xw_iload3 dr_changeStack_37 ?_
  refine xw_iconst dr_changeStack_38 ki_2 ?_
  refine xw_iload5 dr_changeStack_39 ?_
  refine xw_imul dr_changeStack_41 ?_
  refine xw_iadd dr_changeStack_42 ?_
  refine xw_ldc dr_changeStack_43 kc_r_87 ?_
  refine xw_iand dr_changeStack_45 ?_
  refine xw_cTi dr_changeStack_46 (lk_r_changeStack_46 (xl_n hn (by decide)) rfl) ok_r_wordIn (mr_wordIn hl hn hJ_s5) ⟨Nat.le_of_ble_eq_true rfl, Nat.le_of_ble_eq_true rfl⟩ rfl (fun b6 s7 h_s7 => ?_)
  have hJ_s7 : jx_J s7 := xj_o (jr_wordIn hJ_s5) h_s7
  refine xw_iast dr_changeStack_49 (by decide) (xl_n hn (by decide)) rfl vc_1_7 cn_1 ?_
  refine xw_lw (fun s8 e_s8 => ?_)
  have hJ_s8 : jx_J s8 := by rw [e_s8]; exact (jx_u hJ_s7 (by decide))
  refine xw_iinc5 dr_changeStack_50 ic_1_1 (Nat.le_of_ble_eq_true rfl) rfl ?_
  refine xw_goto dr_changeStack_53 rfl ?_
  refine xw_iload5 dr_changeStack_23 ?_
  refine xw_iload2 dr_changeStack_25 ?_
  refine xw_icmp_ge_f dr_changeStack_26 rfl (by decide) ?_
  refine xw_aload0 dr_changeStack_29 ?_
  refine xw_getR dr_changeStack_30 fl_r_52 (xl_n hn (by decide)) rfl r_1_8 ?_
  refine xw_iload5 dr_changeStack_33 ?_
  refine xw_aload0 dr_changeStack_35 ?_
  refine xw_iconst dr_changeStack_36 ki_1 ?_
  refine xw_iload3 dr_changeStack_37 ?_
  refine xw_iconst dr_changeStack_38 ki_2 ?_
  refine xw_iload5 dr_changeStack_39 ?_
  refine xw_imul dr_changeStack_41 ?_
  refine xw_iadd dr_changeStack_42 ?_
  refine xw_ldc dr_changeStack_43 kc_r_87 ?_
  refine xw_iand dr_changeStack_45 ?_
  refine xw_cTi dr_changeStack_46 (lk_r_changeStack_46 (xl_n hn (by decide)) rfl) ok_r_wordIn (mr_wordIn hl hn hJ_s8) ⟨Nat.le_of_ble_eq_true rfl, Nat.le_of_ble_eq_true rfl⟩ rfl (fun b9 s10 h_s10 => ?_)
  have hJ_s10 : jx_J s10 := xj_o (jr_wordIn hJ_s8) h_s10
  refine xw_iast dr_changeStack_49 (by decide) (xl_n hn (by decide)) rfl vc_2_7 cn_2 ?_
  refine xw_lw (fun s11 e_s11 => ?_)
  have hJ_s11 : jx_J s11 := by rw [e_s11]; exact (jx_u hJ_s10 (by decide))
  refine xw_iinc5 dr_changeStack_50 ic_2_1 (Nat.le_of_ble_eq_true rfl) rfl ?_
  refine xw_goto dr_changeStack_53 rfl ?_
  refine xw_iload5 dr_changeStack_23 ?_
  refine xw_iload2 dr_changeStack_25 ?_
  refine xw_icmp_ge_f dr_changeStack_26 rfl (by decide) ?_
  refine xw_aload0 dr_changeStack_29 ?_
  refine xw_getR dr_changeStack_30 fl_r_52 (xl_n hn (by decide)) rfl r_1_8 ?_
  refine xw_iload5 dr_changeStack_33 ?_
  refine xw_aload0 dr_changeStack_35 ?_
  refine xw_iconst dr_changeStack_36 ki_1 ?_
  refine xw_iload3 dr_changeStack_37 ?_
  refine xw_iconst dr_changeStack_38 ki_2 ?_
  refine xw_iload5 dr_changeStack_39 ?_
  refine xw_imul dr_changeStack_41 ?_
  refine xw_iadd dr_changeStack_42 ?_
  refine xw_ldc dr_changeStack_43 kc_r_87 ?_
  refine xw_iand dr_changeStack_45 ?_
  refine xw_cTi dr_changeStack_46 (lk_r_changeStack_46 (xl_n hn (by decide)) rfl) ok_r_wordIn (mr_wordIn hl hn hJ_s11) ⟨Nat.le_of_ble_eq_true rfl, Nat.le_of_ble_eq_true rfl⟩ rfl (fun b12 s13 h_s13 => ?_)
  have hJ_s13 : jx_J s13 := xj_o (jr_wordIn hJ_s11) h_s13
  refine xw_iast dr_changeStack_49 (by decide) (xl_n hn (by decide)) rfl vc_3_7 cn_3 ?_
  refine xw_lw (fun s14 e_s14 => ?_)
  have hJ_s14 : jx_J s14 := by rw [e_s14]; exact (jx_u hJ_s13 (by decide))
  refine xw_iinc5 dr_changeStack_50 ic_3_1 (Nat.le_of_ble_eq_true rfl) rfl ?_
  refine xw_goto dr_changeStack_53 rfl ?_
  refine xw_iload5 dr_changeStack_23 ?_
  refine xw_iload2 dr_changeStack_25 ?_
  refine xw_icmp_ge_f dr_changeStack_26 rfl (by decide) ?_
  refine xw_aload0 dr_changeStack_29 ?_
  refine xw_getR dr_changeStack_30 fl_r_52 (xl_n hn (by decide)) rfl r_1_8 ?_
  refine xw_iload5 dr_changeStack_33 ?_
  refine xw_aload0 dr_changeStack_35 ?_
  refine xw_iconst dr_changeStack_36 ki_1 ?_
  refine xw_iload3 dr_changeStack_37 ?_
  refine xw_iconst dr_changeStack_38 ki_2 ?_
  refine xw_iload5 dr_changeStack_39 ?_
  refine xw_imul dr_changeStack_41 ?_
  refine xw_iadd dr_changeStack_42 ?_
  refine xw_ldc dr_changeStack_43 kc_r_87 ?_
  refine xw_iand dr_changeStack_45 ?_
  refine xw_cTi dr_changeStack_46 (lk_r_changeStack_46 (xl_n hn (by decide)) rfl) ok_r_wordIn (mr_wordIn hl hn hJ_s14) ⟨Nat.le_of_ble_eq_true rfl, Nat.le_of_ble_eq_true rfl⟩ rfl (fun b15 s16 h_s16 => ?_)
  have hJ_s16 : jx_J s16 := xj_o (jr_wordIn hJ_s14) h_s16
  refine xw_iast dr_changeStack_49 (by decide) (xl_n hn (by decide)) rfl vc_4_7 cn_4 ?_
  refine xw_lw (fun s17 e_s17 => ?_)
  have hJ_s17 : jx_J s17 := by rw [e_s17]; exact (jx_u hJ_s16 (by decide))
  refine xw_iinc5 dr_changeStack_50 ic_4_1 (Nat.le_of_ble_eq_true rfl) rfl ?_
  refine xw_goto dr_changeStack_53 rfl ?_
  refine xw_iload5 dr_changeStack_23 ?_
  refine xw_iload2 dr_changeStack_25 ?_
  refine xw_icmp_ge_t dr_changeStack_26 rfl (by decide) ?_
  refine xw_aload0 dr_changeStack_56 ?_
  refine xw_getR dr_changeStack_57 fl_r_19 (xl_n hn (by decide)) rfl r_1_1 ?_
  refine xw_aload0 dr_changeStack_60 ?_
  refine xw_getR dr_changeStack_61 fl_r_42 (xl_n hn (by decide)) rfl r_1_5 ?_
  refine xw_getI dr_changeStack_64 fl_r_182 (by decide) (xl_n hn (by decide)) rfl ?_
  refine xw_putI dr_changeStack_67 fl_r_157 nf_3_6 (by decide) (xl_n hn (by decide)) rfl ?_
  refine xw_lw (fun s18 e_s18 => ?_)
  have hJ_s18 : jx_J s18 := by rw [e_s18]; exact (jx_u hJ_s17 (by decide))
  refine xw_aload0 dr_changeStack_70 ?_
  refine xw_getR dr_changeStack_71 fl_r_19 (xl_n hn (by decide)) rfl r_1_1 ?_
  refine xw_getR dr_changeStack_74 fl_r_145 (xl_n hn (by decide)) rfl r_3_1 ?_
  refine xw_aload0 dr_changeStack_77 ?_
  refine xw_getR dr_changeStack_78 fl_r_45 (xl_n hn (by decide)) rfl r_1_6 ?_
  refine xw_cW dr_changeStack_81 (lk_r_changeStack_81 (xl_n hn (by decide)) rfl) ok_d_copy (md_copy hl hn (by decide) (xl_n hn (by decide)) rfl (by decide) (xl_n hn (by decide)) rfl) ⟨Nat.le_of_ble_eq_true rfl, Nat.le_of_ble_eq_true rfl⟩ ?_
  refine xw_lw (fun s19 e_s19 => ?_)
  have hJ_s19 : jx_J s19 := by rw [e_s19]; exact (jd_copy (by decide) hJ_s18)
  refine xw_aload0 dr_changeStack_84 ?_
  refine xw_getR dr_changeStack_85 fl_r_19 (xl_n hn (by decide)) rfl r_1_1 ?_
  refine xw_iload1 dr_changeStack_88 ?_
  refine xw_putI dr_changeStack_89 fl_r_151 nf_3_3 (by decide) (xl_n hn (by decide)) rfl ?_
  refine xw_lw (fun s20 e_s20 => ?_)
  have hJ_s20 : jx_J s20 := by rw [e_s20]; exact (jx_u hJ_s19 (by decide))
  refine xw_aload0 dr_changeStack_92 ?_
  refine xw_iload4 dr_changeStack_93 ?_
  refine xw_cTu dr_changeStack_95 (lk_r_changeStack_95 (xl_n hn (by decide)) rfl) ok_r_pushWord (mr_pushWord hl hn hJ_s20) ⟨Nat.le_of_ble_eq_true rfl, Nat.le_of_ble_eq_true rfl⟩ rfl (fun b21 s22 h_s22 => ?_)
  have hJ_s22 : jx_J s22 := xj_o (jr_pushWord hJ_s20) h_s22
  refine xw_aload0 dr_changeStack_98 ?_
  refine xw_iload3 dr_changeStack_99 ?_
  refine xw_cTu dr_changeStack_100 (lk_r_changeStack_100 (xl_n hn (by decide)) rfl) ok_r_pushWord (mr_pushWord hl hn hJ_s22) ⟨Nat.le_of_ble_eq_true rfl, Nat.le_of_ble_eq_true rfl⟩ rfl (fun b23 s24 h_s24 => ?_)
  have hJ_s24 : jx_J s24 := xj_o (jr_pushWord hJ_s22) h_s24
  refine xw_iload2 dr_changeStack_103 ?_
  refine xw_iconst dr_changeStack_104 ki_1 ?_
  refine xw_isubc dr_changeStack_105 sb_5_1 ?_
  refine xw_istore5 dr_changeStack_106 (Nat.le_of_ble_eq_true rfl) rfl ?_
  refine xw_iload5 dr_changeStack_108 ?_
  refine xw_if_lt_f dr_changeStack_110 rfl (by decide) ?_
  refine xw_aload0 dr_changeStack_113 ?_
  refine xw_aload0 dr_changeStack_114 ?_
  refine xw_getR dr_changeStack_115 fl_r_52 (xl_n hn (by decide)) rfl r_1_8 ?_
  refine xw_iload5 dr_changeStack_118 ?_
  refine xw_iald dr_changeStack_120 (xl_n hn (by decide)) rfl vc_4_7 cn_4 ?_
  refine xw_cTu dr_changeStack_121 (lk_r_changeStack_121 (xl_n hn (by decide)) rfl) ok_r_pushWord (mr_pushWord hl hn hJ_s24) ⟨Nat.le_of_ble_eq_true rfl, Nat.le_of_ble_eq_true rfl⟩ rfl (fun b25 s26 h_s26 => ?_)
  have hJ_s26 : jx_J s26 := xj_o (jr_pushWord hJ_s24) h_s26
  refine xw_iinc5 dr_changeStack_124 ic_4_m1 (Nat.le_of_ble_eq_true rfl) rfl ?_
  refine xw_goto dr_changeStack_127 rfl ?_
  refine xw_iload5 dr_changeStack_108 ?_
  refine xw_if_lt_f dr_changeStack_110 rfl (by decide) ?_
  refine xw_aload0 dr_changeStack_113 ?_
  refine xw_aload0 dr_changeStack_114 ?_
  refine xw_getR dr_changeStack_115 fl_r_52 (xl_n hn (by decide)) rfl r_1_8 ?_
  refine xw_iload5 dr_changeStack_118 ?_
  refine xw_iald dr_changeStack_120 (xl_n hn (by decide)) rfl vc_3_7 cn_3 ?_
  refine xw_cTu dr_changeStack_121 (lk_r_changeStack_121 (xl_n hn (by decide)) rfl) ok_r_pushWord (mr_pushWord hl hn hJ_s26) ⟨Nat.le_of_ble_eq_true rfl, Nat.le_of_ble_eq_true rfl⟩ rfl (fun b27 s28 h_s28 => ?_)
  have hJ_s28 : jx_J s28 := xj_o (jr_pushWord hJ_s26) h_s28
  refine xw_iinc5 dr_changeStack_124 ic_3_m1 (Nat.le_of_ble_eq_true rfl) rfl ?_
  refine xw_goto dr_changeStack_127 rfl ?_
  refine xw_iload5 dr_changeStack_108 ?_
  refine xw_if_lt_f dr_changeStack_110 rfl (by decide) ?_
  refine xw_aload0 dr_changeStack_113 ?_
  refine xw_aload0 dr_changeStack_114 ?_
  refine xw_getR dr_changeStack_115 fl_r_52 (xl_n hn (by decide)) rfl r_1_8 ?_
  refine xw_iload5 dr_changeStack_118 ?_
  refine xw_iald dr_changeStack_120 (xl_n hn (by decide)) rfl vc_2_7 cn_2 ?_
  refine xw_cTu dr_changeStack_121 (lk_r_changeStack_121 (xl_n hn (by decide)) rfl) ok_r_pushWord (mr_pushWord hl hn hJ_s28) ⟨Nat.le_of_ble_eq_true rfl, Nat.le_of_ble_eq_true rfl⟩ rfl (fun b29 s30 h_s30 => ?_)
  have hJ_s30 : jx_J s30 := xj_o (jr_pushWord hJ_s28) h_s30
  refine xw_iinc5 dr_changeStack_124 ic_2_m1 (Nat.le_of_ble_eq_true rfl) rfl ?_
  refine xw_goto dr_changeStack_127 rfl ?_
  refine xw_iload5 dr_changeStack_108 ?_
  refine xw_if_lt_f dr_changeStack_110 rfl (by decide) ?_
  refine xw_aload0 dr_changeStack_113 ?_
  refine xw_aload0 dr_changeStack_114 ?_
  refine xw_getR dr_changeStack_115 fl_r_52 (xl_n hn (by decide)) rfl r_1_8 ?_
  refine xw_iload5 dr_changeStack_118 ?_
  refine xw_iald dr_changeStack_120 (xl_n hn (by decide)) rfl vc_1_7 cn_1 ?_
  refine xw_cTu dr_changeStack_121 (lk_r_changeStack_121 (xl_n hn (by decide)) rfl) ok_r_pushWord (mr_pushWord hl hn hJ_s30) ⟨Nat.le_of_ble_eq_true rfl, Nat.le_of_ble_eq_true rfl⟩ rfl (fun b31 s32 h_s32 => ?_)
  have hJ_s32 : jx_J s32 := xj_o (jr_pushWord hJ_s30) h_s32
  refine xw_iinc5 dr_changeStack_124 ic_1_m1 (Nat.le_of_ble_eq_true rfl) rfl ?_
  refine xw_goto dr_changeStack_127 rfl ?_
  refine xw_iload5 dr_changeStack_108 ?_
  refine xw_if_lt_f dr_changeStack_110 rfl (by decide) ?_
  refine xw_aload0 dr_changeStack_113 ?_
  refine xw_aload0 dr_changeStack_114 ?_
  refine xw_getR dr_changeStack_115 fl_r_52 (xl_n hn (by decide)) rfl r_1_8 ?_
  refine xw_iload5 dr_changeStack_118 ?_
  refine xw_iald dr_changeStack_120 (xl_n hn (by decide)) rfl vc_0_7 cn_0 ?_
  refine xw_cTu dr_changeStack_121 (lk_r_changeStack_121 (xl_n hn (by decide)) rfl) ok_r_pushWord (mr_pushWord hl hn hJ_s32) ⟨Nat.le_of_ble_eq_true rfl, Nat.le_of_ble_eq_true rfl⟩ rfl (fun b33 s34 h_s34 => ?_)
  have hJ_s34 : jx_J s34 := xj_o (jr_pushWord hJ_s32) h_s34
  refine xw_iinc5 dr_changeStack_124 ic_0_m1 (Nat.le_of_ble_eq_true rfl) rfl ?_
  refine xw_goto dr_changeStack_127 rfl ?_
  refine xw_iload5 dr_changeStack_108 ?_
  refine xw_if_lt_t dr_changeStack_110 rfl (by decide) ?_
  exact xw_vret dr_changeStack_130 rfl
theorem jr_changeStack_5 {a1 : Int32} {σ : xs_S} (hJ : jx_J σ) : jx_J (fr_changeStack_5 a1 σ).2 := by
  unfold fr_changeStack_5
  refine xj_l (fun v1 e_v1 => ?_)
  refine xj_l (fun v2 e_v2 => ?_)
  refine xj_b (jr_wordIn hJ) (fun b3 s4 h_s4 hJ_s4 => ?_)
  refine xj_l (fun s5 e_s5 => ?_)
  have hJ_s5 : jx_J s5 := by rw [e_s5]; exact (jx_u hJ_s4 (by decide))
  refine xj_b (jr_wordIn hJ_s5) (fun b6 s7 h_s7 hJ_s7 => ?_)
  refine xj_l (fun s8 e_s8 => ?_)
  have hJ_s8 : jx_J s8 := by rw [e_s8]; exact (jx_u hJ_s7 (by decide))
  refine xj_b (jr_wordIn hJ_s8) (fun b9 s10 h_s10 hJ_s10 => ?_)
  refine xj_l (fun s11 e_s11 => ?_)
  have hJ_s11 : jx_J s11 := by rw [e_s11]; exact (jx_u hJ_s10 (by decide))
  refine xj_b (jr_wordIn hJ_s11) (fun b12 s13 h_s13 hJ_s13 => ?_)
  refine xj_l (fun s14 e_s14 => ?_)
  have hJ_s14 : jx_J s14 := by rw [e_s14]; exact (jx_u hJ_s13 (by decide))
  refine xj_b (jr_wordIn hJ_s14) (fun b15 s16 h_s16 hJ_s16 => ?_)
  refine xj_l (fun s17 e_s17 => ?_)
  have hJ_s17 : jx_J s17 := by rw [e_s17]; exact (jx_u hJ_s16 (by decide))
  refine xj_l (fun s18 e_s18 => ?_)
  have hJ_s18 : jx_J s18 := by rw [e_s18]; exact (jx_u hJ_s17 (by decide))
  refine xj_l (fun s19 e_s19 => ?_)
  have hJ_s19 : jx_J s19 := by rw [e_s19]; exact (jd_copy (by decide) hJ_s18)
  refine xj_l (fun s20 e_s20 => ?_)
  have hJ_s20 : jx_J s20 := by rw [e_s20]; exact (jx_u hJ_s19 (by decide))
  refine xj_b (jr_pushWord hJ_s20) (fun b21 s22 h_s22 hJ_s22 => ?_)
  refine xj_b (jr_pushWord hJ_s22) (fun b23 s24 h_s24 hJ_s24 => ?_)
  refine xj_b (jr_pushWord hJ_s24) (fun b25 s26 h_s26 hJ_s26 => ?_)
  refine xj_b (jr_pushWord hJ_s26) (fun b27 s28 h_s28 hJ_s28 => ?_)
  refine xj_b (jr_pushWord hJ_s28) (fun b29 s30 h_s30 hJ_s30 => ?_)
  refine xj_b (jr_pushWord hJ_s30) (fun b31 s32 h_s32 hJ_s32 => ?_)
  refine xj_b (jr_pushWord hJ_s32) (fun b33 s34 h_s34 hJ_s34 => ?_)
  exact hJ_s34
def fr_changeStack_6 (a1 : Int32) (σ : xs_S) : xp_P Unit := xl_l ((σ 3 3)) (fun v1 => xl_l ((σ 5 0)) (fun v2 => xp_b (fr_wordIn (1 : Int32) ((v1 + ((2 : Int32) * (0 : Int32))) &&& (65535 : Int32)) σ) (fun b3 s4 => xl_l ((xu_u s4 17 0 b3)) (fun s5 => xp_b (fr_wordIn (1 : Int32) ((v1 + ((2 : Int32) * (1 : Int32))) &&& (65535 : Int32)) s5) (fun b6 s7 => xl_l ((xu_u s7 17 1 b6)) (fun s8 => xp_b (fr_wordIn (1 : Int32) ((v1 + ((2 : Int32) * (2 : Int32))) &&& (65535 : Int32)) s8) (fun b9 s10 => xl_l ((xu_u s10 17 2 b9)) (fun s11 => xp_b (fr_wordIn (1 : Int32) ((v1 + ((2 : Int32) * (3 : Int32))) &&& (65535 : Int32)) s11) (fun b12 s13 => xl_l ((xu_u s13 17 3 b12)) (fun s14 => xp_b (fr_wordIn (1 : Int32) ((v1 + ((2 : Int32) * (4 : Int32))) &&& (65535 : Int32)) s14) (fun b15 s16 => xl_l ((xu_u s16 17 4 b15)) (fun s17 => xp_b (fr_wordIn (1 : Int32) ((v1 + ((2 : Int32) * (5 : Int32))) &&& (65535 : Int32)) s17) (fun b18 s19 => xl_l ((xu_u s19 17 5 b18)) (fun s20 => xl_l ((xu_u s20 3 6 (s20 14 4))) (fun s21 => xl_l ((fd_copy 5 15 s21)) (fun s22 => xl_l ((xu_u s22 3 3 a1)) (fun s23 => xp_b (fr_pushWord v2 s23) (fun b24 s25 => xp_b (fr_pushWord v1 s25) (fun b26 s27 => xp_b (fr_pushWord (s27 17 5) s27) (fun b28 s29 => xp_b (fr_pushWord (s29 17 4) s29) (fun b30 s31 => xp_b (fr_pushWord (s31 17 3) s31) (fun b32 s33 => xp_b (fr_pushWord (s33 17 2) s33) (fun b34 s35 => xp_b (fr_pushWord (s35 17 1) s35) (fun b36 s37 => xp_b (fr_pushWord (s37 17 0) s37) (fun b38 s39 => (some (), s39))))))))))))))))))))))))))
set_option maxRecDepth 100000 in
set_option maxHeartbeats 4000000 in
theorem mr_changeStack_6 {l : Launch} {N n u : Nat} {a1 : Int32} {σ : xs_S} (hl : l.stackTraces = false) (hn : 29 ≤ n) (hJ : jx_J σ) : xm_m (xk_k N) l tr_changeStack [.ref 1, .int a1, .int (6 : Int32)] (n, u, σ, xr_0) (xe_t eu_u n u (fr_changeStack_6 a1 σ)) := by
  refine xm_of hl ok_r_changeStack (Nat.le_of_ble_eq_true rfl) ?_
  show xw_w (xk_k N) l tr_changeStack 0 [some (.ref 1), some (.int a1), some (.int (6 : Int32)), none, none, none] [] (n, u, σ, xr_0) (xe_t eu_u n u (fr_changeStack_6 a1 σ))
  unfold fr_changeStack_6
  refine xw_aload0 dr_changeStack_0 ?_
  refine xw_getR dr_changeStack_1 fl_r_19 (xl_n hn (by decide)) rfl r_1_1 ?_
  refine xw_getI dr_changeStack_4 fl_r_151 (by decide) (xl_n hn (by decide)) rfl ?_
  refine xw_li (fun v1 e_v1 => ?_)
  refine xw_istore3 dr_changeStack_7 (Nat.le_of_ble_eq_true rfl) rfl ?_
  refine xw_aload0 dr_changeStack_8 ?_
  refine xw_getR dr_changeStack_9 fl_r_19 (xl_n hn (by decide)) rfl r_1_1 ?_
  refine xw_getR dr_changeStack_12 fl_r_145 (xl_n hn (by decide)) rfl r_3_1 ?_
  refine xw_getI dr_changeStack_15 fl_r_142 (by decide) (xl_n hn (by decide)) rfl ?_
  refine xw_li (fun v2 e_v2 => ?_)
  refine xw_istore4 dr_changeStack_18 (Nat.le_of_ble_eq_true rfl) rfl ?_
  refine xw_iconst dr_changeStack_20 ki_0 ?_
  refine xw_istore5 dr_changeStack_21 (Nat.le_of_ble_eq_true rfl) rfl ?_
  refine xw_iload5 dr_changeStack_23 ?_
  refine xw_iload2 dr_changeStack_25 ?_
  refine xw_icmp_ge_f dr_changeStack_26 rfl (by decide) ?_
  refine xw_aload0 dr_changeStack_29 ?_
  refine xw_getR dr_changeStack_30 fl_r_52 (xl_n hn (by decide)) rfl r_1_8 ?_
  refine xw_iload5 dr_changeStack_33 ?_
  refine xw_aload0 dr_changeStack_35 ?_
  refine xw_iconst dr_changeStack_36 ki_1 ?_
  refine xw_iload3 dr_changeStack_37 ?_
  refine xw_iconst dr_changeStack_38 ki_2 ?_
  refine xw_iload5 dr_changeStack_39 ?_
  refine xw_imul dr_changeStack_41 ?_
  refine xw_iadd dr_changeStack_42 ?_
  refine xw_ldc dr_changeStack_43 kc_r_87 ?_
  refine xw_iand dr_changeStack_45 ?_
  refine xw_cTi dr_changeStack_46 (lk_r_changeStack_46 (xl_n hn (by decide)) rfl) ok_r_wordIn (mr_wordIn hl hn hJ) ⟨Nat.le_of_ble_eq_true rfl, Nat.le_of_ble_eq_true rfl⟩ rfl (fun b3 s4 h_s4 => ?_)
  have hJ_s4 : jx_J s4 := xj_o (jr_wordIn hJ) h_s4
  refine xw_iast dr_changeStack_49 (by decide) (xl_n hn (by decide)) rfl vc_0_7 cn_0 ?_
  refine xw_lw (fun s5 e_s5 => ?_)
  have hJ_s5 : jx_J s5 := by rw [e_s5]; exact (jx_u hJ_s4 (by decide))
  refine xw_iinc5 dr_changeStack_50 ic_0_1 (Nat.le_of_ble_eq_true rfl) rfl ?_
  refine xw_goto dr_changeStack_53 rfl ?_
  refine xw_iload5 dr_changeStack_23 ?_
  refine xw_iload2 dr_changeStack_25 ?_
  refine xw_icmp_ge_f dr_changeStack_26 rfl (by decide) ?_
  refine xw_aload0 dr_changeStack_29 ?_
  refine xw_getR dr_changeStack_30 fl_r_52 (xl_n hn (by decide)) rfl r_1_8 ?_
  refine xw_iload5 dr_changeStack_33 ?_
  refine xw_aload0 dr_changeStack_35 ?_
  refine xw_iconst dr_changeStack_36 ki_1 ?_
  refine xw_iload3 dr_changeStack_37 ?_
  refine xw_iconst dr_changeStack_38 ki_2 ?_
  refine xw_iload5 dr_changeStack_39 ?_
  refine xw_imul dr_changeStack_41 ?_
  refine xw_iadd dr_changeStack_42 ?_
  refine xw_ldc dr_changeStack_43 kc_r_87 ?_
  refine xw_iand dr_changeStack_45 ?_
  refine xw_cTi dr_changeStack_46 (lk_r_changeStack_46 (xl_n hn (by decide)) rfl) ok_r_wordIn (mr_wordIn hl hn hJ_s5) ⟨Nat.le_of_ble_eq_true rfl, Nat.le_of_ble_eq_true rfl⟩ rfl (fun b6 s7 h_s7 => ?_)
  have hJ_s7 : jx_J s7 := xj_o (jr_wordIn hJ_s5) h_s7
  refine xw_iast dr_changeStack_49 (by decide) (xl_n hn (by decide)) rfl vc_1_7 cn_1 ?_
  refine xw_lw (fun s8 e_s8 => ?_)
  have hJ_s8 : jx_J s8 := by rw [e_s8]; exact (jx_u hJ_s7 (by decide))
  refine xw_iinc5 dr_changeStack_50 ic_1_1 (Nat.le_of_ble_eq_true rfl) rfl ?_
  refine xw_goto dr_changeStack_53 rfl ?_
  refine xw_iload5 dr_changeStack_23 ?_
  refine xw_iload2 dr_changeStack_25 ?_
  refine xw_icmp_ge_f dr_changeStack_26 rfl (by decide) ?_
  refine xw_aload0 dr_changeStack_29 ?_
  refine xw_getR dr_changeStack_30 fl_r_52 (xl_n hn (by decide)) rfl r_1_8 ?_
  refine xw_iload5 dr_changeStack_33 ?_
  refine xw_aload0 dr_changeStack_35 ?_
  refine xw_iconst dr_changeStack_36 ki_1 ?_
  refine xw_iload3 dr_changeStack_37 ?_
  refine xw_iconst dr_changeStack_38 ki_2 ?_
  refine xw_iload5 dr_changeStack_39 ?_
  refine xw_imul dr_changeStack_41 ?_
  refine xw_iadd dr_changeStack_42 ?_
  refine xw_ldc dr_changeStack_43 kc_r_87 ?_
  refine xw_iand dr_changeStack_45 ?_
  refine xw_cTi dr_changeStack_46 (lk_r_changeStack_46 (xl_n hn (by decide)) rfl) ok_r_wordIn (mr_wordIn hl hn hJ_s8) ⟨Nat.le_of_ble_eq_true rfl, Nat.le_of_ble_eq_true rfl⟩ rfl (fun b9 s10 h_s10 => ?_)
  have hJ_s10 : jx_J s10 := xj_o (jr_wordIn hJ_s8) h_s10
  refine xw_iast dr_changeStack_49 (by decide) (xl_n hn (by decide)) rfl vc_2_7 cn_2 ?_
  refine xw_lw (fun s11 e_s11 => ?_)
  have hJ_s11 : jx_J s11 := by rw [e_s11]; exact (jx_u hJ_s10 (by decide))
  refine xw_iinc5 dr_changeStack_50 ic_2_1 (Nat.le_of_ble_eq_true rfl) rfl ?_
  refine xw_goto dr_changeStack_53 rfl ?_
  refine xw_iload5 dr_changeStack_23 ?_
  refine xw_iload2 dr_changeStack_25 ?_
  refine xw_icmp_ge_f dr_changeStack_26 rfl (by decide) ?_
  refine xw_aload0 dr_changeStack_29 ?_
  refine xw_getR dr_changeStack_30 fl_r_52 (xl_n hn (by decide)) rfl r_1_8 ?_
  refine xw_iload5 dr_changeStack_33 ?_
  refine xw_aload0 dr_changeStack_35 ?_
  refine xw_iconst dr_changeStack_36 ki_1 ?_
  refine xw_iload3 dr_changeStack_37 ?_
  refine xw_iconst dr_changeStack_38 ki_2 ?_
  refine xw_iload5 dr_changeStack_39 ?_
  refine xw_imul dr_changeStack_41 ?_
  refine xw_iadd dr_changeStack_42 ?_
  refine xw_ldc dr_changeStack_43 kc_r_87 ?_
  refine xw_iand dr_changeStack_45 ?_
  refine xw_cTi dr_changeStack_46 (lk_r_changeStack_46 (xl_n hn (by decide)) rfl) ok_r_wordIn (mr_wordIn hl hn hJ_s11) ⟨Nat.le_of_ble_eq_true rfl, Nat.le_of_ble_eq_true rfl⟩ rfl (fun b12 s13 h_s13 => ?_)
  have hJ_s13 : jx_J s13 := xj_o (jr_wordIn hJ_s11) h_s13
  refine xw_iast dr_changeStack_49 (by decide) (xl_n hn (by decide)) rfl vc_3_7 cn_3 ?_
  refine xw_lw (fun s14 e_s14 => ?_)
  have hJ_s14 : jx_J s14 := by rw [e_s14]; exact (jx_u hJ_s13 (by decide))
  refine xw_iinc5 dr_changeStack_50 ic_3_1 (Nat.le_of_ble_eq_true rfl) rfl ?_
  refine xw_goto dr_changeStack_53 rfl ?_
  refine xw_iload5 dr_changeStack_23 ?_
  refine xw_iload2 dr_changeStack_25 ?_
  refine xw_icmp_ge_f dr_changeStack_26 rfl (by decide) ?_
  refine xw_aload0 dr_changeStack_29 ?_
  refine xw_getR dr_changeStack_30 fl_r_52 (xl_n hn (by decide)) rfl r_1_8 ?_
  refine xw_iload5 dr_changeStack_33 ?_
  refine xw_aload0 dr_changeStack_35 ?_
  refine xw_iconst dr_changeStack_36 ki_1 ?_
  refine xw_iload3 dr_changeStack_37 ?_
  refine xw_iconst dr_changeStack_38 ki_2 ?_
  refine xw_iload5 dr_changeStack_39 ?_
  refine xw_imul dr_changeStack_41 ?_
  refine xw_iadd dr_changeStack_42 ?_
  refine xw_ldc dr_changeStack_43 kc_r_87 ?_
  refine xw_iand dr_changeStack_45 ?_
  refine xw_cTi dr_changeStack_46 (lk_r_changeStack_46 (xl_n hn (by decide)) rfl) ok_r_wordIn (mr_wordIn hl hn hJ_s14) ⟨Nat.le_of_ble_eq_true rfl, Nat.le_of_ble_eq_true rfl⟩ rfl (fun b15 s16 h_s16 => ?_)
  have hJ_s16 : jx_J s16 := xj_o (jr_wordIn hJ_s14) h_s16
  refine xw_iast dr_changeStack_49 (by decide) (xl_n hn (by decide)) rfl vc_4_7 cn_4 ?_
  refine xw_lw (fun s17 e_s17 => ?_)
  have hJ_s17 : jx_J s17 := by rw [e_s17]; exact (jx_u hJ_s16 (by decide))
  refine xw_iinc5 dr_changeStack_50 ic_4_1 (Nat.le_of_ble_eq_true rfl) rfl ?_
  refine xw_goto dr_changeStack_53 rfl ?_
  refine xw_iload5 dr_changeStack_23 ?_
  refine xw_iload2 dr_changeStack_25 ?_
  refine xw_icmp_ge_f dr_changeStack_26 rfl (by decide) ?_
  refine xw_aload0 dr_changeStack_29 ?_
  refine xw_getR dr_changeStack_30 fl_r_52 (xl_n hn (by decide)) rfl r_1_8 ?_
  refine xw_iload5 dr_changeStack_33 ?_
  refine xw_aload0 dr_changeStack_35 ?_
  refine xw_iconst dr_changeStack_36 ki_1 ?_
  refine xw_iload3 dr_changeStack_37 ?_
  refine xw_iconst dr_changeStack_38 ki_2 ?_
  refine xw_iload5 dr_changeStack_39 ?_
  refine xw_imul dr_changeStack_41 ?_
  refine xw_iadd dr_changeStack_42 ?_
  refine xw_ldc dr_changeStack_43 kc_r_87 ?_
  refine xw_iand dr_changeStack_45 ?_
  refine xw_cTi dr_changeStack_46 (lk_r_changeStack_46 (xl_n hn (by decide)) rfl) ok_r_wordIn (mr_wordIn hl hn hJ_s17) ⟨Nat.le_of_ble_eq_true rfl, Nat.le_of_ble_eq_true rfl⟩ rfl (fun b18 s19 h_s19 => ?_)
  have hJ_s19 : jx_J s19 := xj_o (jr_wordIn hJ_s17) h_s19
  refine xw_iast dr_changeStack_49 (by decide) (xl_n hn (by decide)) rfl vc_5_7 cn_5 ?_
  refine xw_lw (fun s20 e_s20 => ?_)
  have hJ_s20 : jx_J s20 := by rw [e_s20]; exact (jx_u hJ_s19 (by decide))
  refine xw_iinc5 dr_changeStack_50 ic_5_1 (Nat.le_of_ble_eq_true rfl) rfl ?_
  refine xw_goto dr_changeStack_53 rfl ?_
  refine xw_iload5 dr_changeStack_23 ?_
  refine xw_iload2 dr_changeStack_25 ?_
  refine xw_icmp_ge_t dr_changeStack_26 rfl (by decide) ?_
  refine xw_aload0 dr_changeStack_56 ?_
  refine xw_getR dr_changeStack_57 fl_r_19 (xl_n hn (by decide)) rfl r_1_1 ?_
  refine xw_aload0 dr_changeStack_60 ?_
  refine xw_getR dr_changeStack_61 fl_r_42 (xl_n hn (by decide)) rfl r_1_5 ?_
  refine xw_getI dr_changeStack_64 fl_r_182 (by decide) (xl_n hn (by decide)) rfl ?_
  refine xw_putI dr_changeStack_67 fl_r_157 nf_3_6 (by decide) (xl_n hn (by decide)) rfl ?_
  refine xw_lw (fun s21 e_s21 => ?_)
  have hJ_s21 : jx_J s21 := by rw [e_s21]; exact (jx_u hJ_s20 (by decide))
  refine xw_aload0 dr_changeStack_70 ?_
  refine xw_getR dr_changeStack_71 fl_r_19 (xl_n hn (by decide)) rfl r_1_1 ?_
  refine xw_getR dr_changeStack_74 fl_r_145 (xl_n hn (by decide)) rfl r_3_1 ?_
  refine xw_aload0 dr_changeStack_77 ?_
  refine xw_getR dr_changeStack_78 fl_r_45 (xl_n hn (by decide)) rfl r_1_6 ?_
  refine xw_cW dr_changeStack_81 (lk_r_changeStack_81 (xl_n hn (by decide)) rfl) ok_d_copy (md_copy hl hn (by decide) (xl_n hn (by decide)) rfl (by decide) (xl_n hn (by decide)) rfl) ⟨Nat.le_of_ble_eq_true rfl, Nat.le_of_ble_eq_true rfl⟩ ?_
  refine xw_lw (fun s22 e_s22 => ?_)
  have hJ_s22 : jx_J s22 := by rw [e_s22]; exact (jd_copy (by decide) hJ_s21)
  refine xw_aload0 dr_changeStack_84 ?_
  refine xw_getR dr_changeStack_85 fl_r_19 (xl_n hn (by decide)) rfl r_1_1 ?_
  refine xw_iload1 dr_changeStack_88 ?_
  refine xw_putI dr_changeStack_89 fl_r_151 nf_3_3 (by decide) (xl_n hn (by decide)) rfl ?_
  refine xw_lw (fun s23 e_s23 => ?_)
  have hJ_s23 : jx_J s23 := by rw [e_s23]; exact (jx_u hJ_s22 (by decide))
  refine xw_aload0 dr_changeStack_92 ?_
  refine xw_iload4 dr_changeStack_93 ?_
  refine xw_cTu dr_changeStack_95 (lk_r_changeStack_95 (xl_n hn (by decide)) rfl) ok_r_pushWord (mr_pushWord hl hn hJ_s23) ⟨Nat.le_of_ble_eq_true rfl, Nat.le_of_ble_eq_true rfl⟩ rfl (fun b24 s25 h_s25 => ?_)
  have hJ_s25 : jx_J s25 := xj_o (jr_pushWord hJ_s23) h_s25
  refine xw_aload0 dr_changeStack_98 ?_
  refine xw_iload3 dr_changeStack_99 ?_
  refine xw_cTu dr_changeStack_100 (lk_r_changeStack_100 (xl_n hn (by decide)) rfl) ok_r_pushWord (mr_pushWord hl hn hJ_s25) ⟨Nat.le_of_ble_eq_true rfl, Nat.le_of_ble_eq_true rfl⟩ rfl (fun b26 s27 h_s27 => ?_)
  have hJ_s27 : jx_J s27 := xj_o (jr_pushWord hJ_s25) h_s27
  refine xw_iload2 dr_changeStack_103 ?_
  refine xw_iconst dr_changeStack_104 ki_1 ?_
  refine xw_isubc dr_changeStack_105 sb_6_1 ?_
  refine xw_istore5 dr_changeStack_106 (Nat.le_of_ble_eq_true rfl) rfl ?_
  refine xw_iload5 dr_changeStack_108 ?_
  refine xw_if_lt_f dr_changeStack_110 rfl (by decide) ?_
  refine xw_aload0 dr_changeStack_113 ?_
  refine xw_aload0 dr_changeStack_114 ?_
  refine xw_getR dr_changeStack_115 fl_r_52 (xl_n hn (by decide)) rfl r_1_8 ?_
  refine xw_iload5 dr_changeStack_118 ?_
  refine xw_iald dr_changeStack_120 (xl_n hn (by decide)) rfl vc_5_7 cn_5 ?_
  refine xw_cTu dr_changeStack_121 (lk_r_changeStack_121 (xl_n hn (by decide)) rfl) ok_r_pushWord (mr_pushWord hl hn hJ_s27) ⟨Nat.le_of_ble_eq_true rfl, Nat.le_of_ble_eq_true rfl⟩ rfl (fun b28 s29 h_s29 => ?_)
  have hJ_s29 : jx_J s29 := xj_o (jr_pushWord hJ_s27) h_s29
  refine xw_iinc5 dr_changeStack_124 ic_5_m1 (Nat.le_of_ble_eq_true rfl) rfl ?_
  refine xw_goto dr_changeStack_127 rfl ?_
  refine xw_iload5 dr_changeStack_108 ?_
  refine xw_if_lt_f dr_changeStack_110 rfl (by decide) ?_
  refine xw_aload0 dr_changeStack_113 ?_
  refine xw_aload0 dr_changeStack_114 ?_
  refine xw_getR dr_changeStack_115 fl_r_52 (xl_n hn (by decide)) rfl r_1_8 ?_
  refine xw_iload5 dr_changeStack_118 ?_
  refine xw_iald dr_changeStack_120 (xl_n hn (by decide)) rfl vc_4_7 cn_4 ?_
  refine xw_cTu dr_changeStack_121 (lk_r_changeStack_121 (xl_n hn (by decide)) rfl) ok_r_pushWord (mr_pushWord hl hn hJ_s29) ⟨Nat.le_of_ble_eq_true rfl, Nat.le_of_ble_eq_true rfl⟩ rfl (fun b30 s31 h_s31 => ?_)
  have hJ_s31 : jx_J s31 := xj_o (jr_pushWord hJ_s29) h_s31
  refine xw_iinc5 dr_changeStack_124 ic_4_m1 (Nat.le_of_ble_eq_true rfl) rfl ?_
  refine xw_goto dr_changeStack_127 rfl ?_
  refine xw_iload5 dr_changeStack_108 ?_
  refine xw_if_lt_f dr_changeStack_110 rfl (by decide) ?_
  refine xw_aload0 dr_changeStack_113 ?_
  refine xw_aload0 dr_changeStack_114 ?_
  refine xw_getR dr_changeStack_115 fl_r_52 (xl_n hn (by decide)) rfl r_1_8 ?_
  refine xw_iload5 dr_changeStack_118 ?_
  refine xw_iald dr_changeStack_120 (xl_n hn (by decide)) rfl vc_3_7 cn_3 ?_
  refine xw_cTu dr_changeStack_121 (lk_r_changeStack_121 (xl_n hn (by decide)) rfl) ok_r_pushWord (mr_pushWord hl hn hJ_s31) ⟨Nat.le_of_ble_eq_true rfl, Nat.le_of_ble_eq_true rfl⟩ rfl (fun b32 s33 h_s33 => ?_)
  have hJ_s33 : jx_J s33 := xj_o (jr_pushWord hJ_s31) h_s33
  refine xw_iinc5 dr_changeStack_124 ic_3_m1 (Nat.le_of_ble_eq_true rfl) rfl ?_
  refine xw_goto dr_changeStack_127 rfl ?_
  refine xw_iload5 dr_changeStack_108 ?_
  refine xw_if_lt_f dr_changeStack_110 rfl (by decide) ?_
  refine xw_aload0 dr_changeStack_113 ?_
  refine xw_aload0 dr_changeStack_114 ?_
  refine xw_getR dr_changeStack_115 fl_r_52 (xl_n hn (by decide)) rfl r_1_8 ?_
  refine xw_iload5 dr_changeStack_118 ?_
  refine xw_iald dr_changeStack_120 (xl_n hn (by decide)) rfl vc_2_7 cn_2 ?_
  refine xw_cTu dr_changeStack_121 (lk_r_changeStack_121 (xl_n hn (by decide)) rfl) ok_r_pushWord (mr_pushWord hl hn hJ_s33) ⟨Nat.le_of_ble_eq_true rfl, Nat.le_of_ble_eq_true rfl⟩ rfl (fun b34 s35 h_s35 => ?_)
  have hJ_s35 : jx_J s35 := xj_o (jr_pushWord hJ_s33) h_s35
  refine xw_iinc5 dr_changeStack_124 ic_2_m1 (Nat.le_of_ble_eq_true rfl) rfl ?_
  refine xw_goto dr_changeStack_127 rfl ?_
  refine xw_iload5 dr_changeStack_108 ?_
  refine xw_if_lt_f dr_changeStack_110 rfl (by decide) ?_
  refine xw_aload0 dr_changeStack_113 ?_
  refine xw_aload0 dr_changeStack_114 ?_
  refine xw_getR dr_changeStack_115 fl_r_52 (xl_n hn (by decide)) rfl r_1_8 ?_
  refine xw_iload5 dr_changeStack_118 ?_
  refine xw_iald dr_changeStack_120 (xl_n hn (by decide)) rfl vc_1_7 cn_1 ?_
  refine xw_cTu dr_changeStack_121 (lk_r_changeStack_121 (xl_n hn (by decide)) rfl) ok_r_pushWord (mr_pushWord hl hn hJ_s35) ⟨Nat.le_of_ble_eq_true rfl, Nat.le_of_ble_eq_true rfl⟩ rfl (fun b36 s37 h_s37 => ?_)
  have hJ_s37 : jx_J s37 := xj_o (jr_pushWord hJ_s35) h_s37
  refine xw_iinc5 dr_changeStack_124 ic_1_m1 (Nat.le_of_ble_eq_true rfl) rfl ?_
  refine xw_goto dr_changeStack_127 rfl ?_
  refine xw_iload5 dr_changeStack_108 ?_
  refine xw_if_lt_f dr_changeStack_110 rfl (by decide) ?_
  refine xw_aload0 dr_changeStack_113 ?_
  refine xw_aload0 dr_changeStack_114 ?_
  refine xw_getR dr_changeStack_115 fl_r_52 (xl_n hn (by decide)) rfl r_1_8 ?_
  refine xw_iload5 dr_changeStack_118 ?_
  refine xw_iald dr_changeStack_120 (xl_n hn (by decide)) rfl vc_0_7 cn_0 ?_
  refine xw_cTu dr_changeStack_121 (lk_r_changeStack_121 (xl_n hn (by decide)) rfl) ok_r_pushWord (mr_pushWord hl hn hJ_s37) ⟨Nat.le_of_ble_eq_true rfl, Nat.le_of_ble_eq_true rfl⟩ rfl (fun b38 s39 h_s39 => ?_)
  have hJ_s39 : jx_J s39 := xj_o (jr_pushWord hJ_s37) h_s39
  refine xw_iinc5 dr_changeStack_124 ic_0_m1 (Nat.le_of_ble_eq_true rfl) rfl ?_
  refine xw_goto dr_changeStack_127 rfl ?_
  refine xw_iload5 dr_changeStack_108 ?_
  refine xw_if_lt_t dr_changeStack_110 rfl (by decide) ?_
  exact xw_vret dr_changeStack_130 rfl
theorem jr_changeStack_6 {a1 : Int32} {σ : xs_S} (hJ : jx_J σ) : jx_J (fr_changeStack_6 a1 σ).2 := by
  unfold fr_changeStack_6
  refine xj_l (fun v1 e_v1 => ?_)
  refine xj_l (fun v2 e_v2 => ?_)
  refine xj_b (jr_wordIn hJ) (fun b3 s4 h_s4 hJ_s4 => ?_)
  refine xj_l (fun s5 e_s5 => ?_)
  have hJ_s5 : jx_J s5 := by rw [e_s5]; exact (jx_u hJ_s4 (by decide))
  refine xj_b (jr_wordIn hJ_s5) (fun b6 s7 h_s7 hJ_s7 => ?_)
  refine xj_l (fun s8 e_s8 => ?_)
  have hJ_s8 : jx_J s8 := by rw [e_s8]; exact (jx_u hJ_s7 (by decide))
  refine xj_b (jr_wordIn hJ_s8) (fun b9 s10 h_s10 hJ_s10 => ?_)
  refine xj_l (fun s11 e_s11 => ?_)
  have hJ_s11 : jx_J s11 := by rw [e_s11]; exact (jx_u hJ_s10 (by decide))
  refine xj_b (jr_wordIn hJ_s11) (fun b12 s13 h_s13 hJ_s13 => ?_)
  refine xj_l (fun s14 e_s14 => ?_)
  have hJ_s14 : jx_J s14 := by rw [e_s14]; exact (jx_u hJ_s13 (by decide))
  refine xj_b (jr_wordIn hJ_s14) (fun b15 s16 h_s16 hJ_s16 => ?_)
  refine xj_l (fun s17 e_s17 => ?_)
  have hJ_s17 : jx_J s17 := by rw [e_s17]; exact (jx_u hJ_s16 (by decide))
  refine xj_b (jr_wordIn hJ_s17) (fun b18 s19 h_s19 hJ_s19 => ?_)
  refine xj_l (fun s20 e_s20 => ?_)
  have hJ_s20 : jx_J s20 := by rw [e_s20]; exact (jx_u hJ_s19 (by decide))
  refine xj_l (fun s21 e_s21 => ?_)
  have hJ_s21 : jx_J s21 := by rw [e_s21]; exact (jx_u hJ_s20 (by decide))
  refine xj_l (fun s22 e_s22 => ?_)
  have hJ_s22 : jx_J s22 := by rw [e_s22]; exact (jd_copy (by decide) hJ_s21)
  refine xj_l (fun s23 e_s23 => ?_)
  have hJ_s23 : jx_J s23 := by rw [e_s23]; exact (jx_u hJ_s22 (by decide))
  refine xj_b (jr_pushWord hJ_s23) (fun b24 s25 h_s25 hJ_s25 => ?_)
  refine xj_b (jr_pushWord hJ_s25) (fun b26 s27 h_s27 hJ_s27 => ?_)
  refine xj_b (jr_pushWord hJ_s27) (fun b28 s29 h_s29 hJ_s29 => ?_)
  refine xj_b (jr_pushWord hJ_s29) (fun b30 s31 h_s31 hJ_s31 => ?_)
  refine xj_b (jr_pushWord hJ_s31) (fun b32 s33 h_s33 hJ_s33 => ?_)
  refine xj_b (jr_pushWord hJ_s33) (fun b34 s35 h_s35 hJ_s35 => ?_)
  refine xj_b (jr_pushWord hJ_s35) (fun b36 s37 h_s37 hJ_s37 => ?_)
  refine xj_b (jr_pushWord hJ_s37) (fun b38 s39 h_s39 hJ_s39 => ?_)
  exact hJ_s39
def fr_changeStack_7 (a1 : Int32) (σ : xs_S) : xp_P Unit := xl_l ((σ 3 3)) (fun v1 => xl_l ((σ 5 0)) (fun v2 => xp_b (fr_wordIn (1 : Int32) ((v1 + ((2 : Int32) * (0 : Int32))) &&& (65535 : Int32)) σ) (fun b3 s4 => xl_l ((xu_u s4 17 0 b3)) (fun s5 => xp_b (fr_wordIn (1 : Int32) ((v1 + ((2 : Int32) * (1 : Int32))) &&& (65535 : Int32)) s5) (fun b6 s7 => xl_l ((xu_u s7 17 1 b6)) (fun s8 => xp_b (fr_wordIn (1 : Int32) ((v1 + ((2 : Int32) * (2 : Int32))) &&& (65535 : Int32)) s8) (fun b9 s10 => xl_l ((xu_u s10 17 2 b9)) (fun s11 => xp_b (fr_wordIn (1 : Int32) ((v1 + ((2 : Int32) * (3 : Int32))) &&& (65535 : Int32)) s11) (fun b12 s13 => xl_l ((xu_u s13 17 3 b12)) (fun s14 => xp_b (fr_wordIn (1 : Int32) ((v1 + ((2 : Int32) * (4 : Int32))) &&& (65535 : Int32)) s14) (fun b15 s16 => xl_l ((xu_u s16 17 4 b15)) (fun s17 => xp_b (fr_wordIn (1 : Int32) ((v1 + ((2 : Int32) * (5 : Int32))) &&& (65535 : Int32)) s17) (fun b18 s19 => xl_l ((xu_u s19 17 5 b18)) (fun s20 => xp_b (fr_wordIn (1 : Int32) ((v1 + ((2 : Int32) * (6 : Int32))) &&& (65535 : Int32)) s20) (fun b21 s22 => xl_l ((xu_u s22 17 6 b21)) (fun s23 => xl_l ((xu_u s23 3 6 (s23 14 4))) (fun s24 => xl_l ((fd_copy 5 15 s24)) (fun s25 => xl_l ((xu_u s25 3 3 a1)) (fun s26 => xp_b (fr_pushWord v2 s26) (fun b27 s28 => xp_b (fr_pushWord v1 s28) (fun b29 s30 => xp_b (fr_pushWord (s30 17 6) s30) (fun b31 s32 => xp_b (fr_pushWord (s32 17 5) s32) (fun b33 s34 => xp_b (fr_pushWord (s34 17 4) s34) (fun b35 s36 => xp_b (fr_pushWord (s36 17 3) s36) (fun b37 s38 => xp_b (fr_pushWord (s38 17 2) s38) (fun b39 s40 => xp_b (fr_pushWord (s40 17 1) s40) (fun b41 s42 => xp_b (fr_pushWord (s42 17 0) s42) (fun b43 s44 => (some (), s44)))))))))))))))))))))))))))))
set_option maxRecDepth 100000 in
set_option maxHeartbeats 4000000 in
theorem mr_changeStack_7 {l : Launch} {N n u : Nat} {a1 : Int32} {σ : xs_S} (hl : l.stackTraces = false) (hn : 29 ≤ n) (hJ : jx_J σ) : xm_m (xk_k N) l tr_changeStack [.ref 1, .int a1, .int (7 : Int32)] (n, u, σ, xr_0) (xe_t eu_u n u (fr_changeStack_7 a1 σ)) := by
  refine xm_of hl ok_r_changeStack (Nat.le_of_ble_eq_true rfl) ?_
  show xw_w (xk_k N) l tr_changeStack 0 [some (.ref 1), some (.int a1), some (.int (7 : Int32)), none, none, none] [] (n, u, σ, xr_0) (xe_t eu_u n u (fr_changeStack_7 a1 σ))
  unfold fr_changeStack_7
  refine xw_aload0 dr_changeStack_0 ?_
  refine xw_getR dr_changeStack_1 fl_r_19 (xl_n hn (by decide)) rfl r_1_1 ?_
  refine xw_getI dr_changeStack_4 fl_r_151 (by decide) (xl_n hn (by decide)) rfl ?_
  refine xw_li (fun v1 e_v1 => ?_)
  refine xw_istore3 dr_changeStack_7 (Nat.le_of_ble_eq_true rfl) rfl ?_
  refine xw_aload0 dr_changeStack_8 ?_
  refine xw_getR dr_changeStack_9 fl_r_19 (xl_n hn (by decide)) rfl r_1_1 ?_
  refine xw_getR dr_changeStack_12 fl_r_145 (xl_n hn (by decide)) rfl r_3_1 ?_
  refine xw_getI dr_changeStack_15 fl_r_142 (by decide) (xl_n hn (by decide)) rfl ?_
  refine xw_li (fun v2 e_v2 => ?_)
  refine xw_istore4 dr_changeStack_18 (Nat.le_of_ble_eq_true rfl) rfl ?_
  refine xw_iconst dr_changeStack_20 ki_0 ?_
  refine xw_istore5 dr_changeStack_21 (Nat.le_of_ble_eq_true rfl) rfl ?_
  refine xw_iload5 dr_changeStack_23 ?_
  refine xw_iload2 dr_changeStack_25 ?_
  refine xw_icmp_ge_f dr_changeStack_26 rfl (by decide) ?_
  refine xw_aload0 dr_changeStack_29 ?_
  refine xw_getR dr_changeStack_30 fl_r_52 (xl_n hn (by decide)) rfl r_1_8 ?_
  refine xw_iload5 dr_changeStack_33 ?_
  refine xw_aload0 dr_changeStack_35 ?_
  refine xw_iconst dr_changeStack_36 ki_1 ?_
  refine xw_iload3 dr_changeStack_37 ?_
  refine xw_iconst dr_changeStack_38 ki_2 ?_
  refine xw_iload5 dr_changeStack_39 ?_
  refine xw_imul dr_changeStack_41 ?_
  refine xw_iadd dr_changeStack_42 ?_
  refine xw_ldc dr_changeStack_43 kc_r_87 ?_
  refine xw_iand dr_changeStack_45 ?_
  refine xw_cTi dr_changeStack_46 (lk_r_changeStack_46 (xl_n hn (by decide)) rfl) ok_r_wordIn (mr_wordIn hl hn hJ) ⟨Nat.le_of_ble_eq_true rfl, Nat.le_of_ble_eq_true rfl⟩ rfl (fun b3 s4 h_s4 => ?_)
  have hJ_s4 : jx_J s4 := xj_o (jr_wordIn hJ) h_s4
  refine xw_iast dr_changeStack_49 (by decide) (xl_n hn (by decide)) rfl vc_0_7 cn_0 ?_
  refine xw_lw (fun s5 e_s5 => ?_)
  have hJ_s5 : jx_J s5 := by rw [e_s5]; exact (jx_u hJ_s4 (by decide))
  refine xw_iinc5 dr_changeStack_50 ic_0_1 (Nat.le_of_ble_eq_true rfl) rfl ?_
  refine xw_goto dr_changeStack_53 rfl ?_
  refine xw_iload5 dr_changeStack_23 ?_
  refine xw_iload2 dr_changeStack_25 ?_
  refine xw_icmp_ge_f dr_changeStack_26 rfl (by decide) ?_
  refine xw_aload0 dr_changeStack_29 ?_
  refine xw_getR dr_changeStack_30 fl_r_52 (xl_n hn (by decide)) rfl r_1_8 ?_
  refine xw_iload5 dr_changeStack_33 ?_
  refine xw_aload0 dr_changeStack_35 ?_
  refine xw_iconst dr_changeStack_36 ki_1 ?_
  refine xw_iload3 dr_changeStack_37 ?_
  refine xw_iconst dr_changeStack_38 ki_2 ?_
  refine xw_iload5 dr_changeStack_39 ?_
  refine xw_imul dr_changeStack_41 ?_
  refine xw_iadd dr_changeStack_42 ?_
  refine xw_ldc dr_changeStack_43 kc_r_87 ?_
  refine xw_iand dr_changeStack_45 ?_
  refine xw_cTi dr_changeStack_46 (lk_r_changeStack_46 (xl_n hn (by decide)) rfl) ok_r_wordIn (mr_wordIn hl hn hJ_s5) ⟨Nat.le_of_ble_eq_true rfl, Nat.le_of_ble_eq_true rfl⟩ rfl (fun b6 s7 h_s7 => ?_)
  have hJ_s7 : jx_J s7 := xj_o (jr_wordIn hJ_s5) h_s7
  refine xw_iast dr_changeStack_49 (by decide) (xl_n hn (by decide)) rfl vc_1_7 cn_1 ?_
  refine xw_lw (fun s8 e_s8 => ?_)
  have hJ_s8 : jx_J s8 := by rw [e_s8]; exact (jx_u hJ_s7 (by decide))
  refine xw_iinc5 dr_changeStack_50 ic_1_1 (Nat.le_of_ble_eq_true rfl) rfl ?_
  refine xw_goto dr_changeStack_53 rfl ?_
  refine xw_iload5 dr_changeStack_23 ?_
  refine xw_iload2 dr_changeStack_25 ?_
  refine xw_icmp_ge_f dr_changeStack_26 rfl (by decide) ?_
  refine xw_aload0 dr_changeStack_29 ?_
  refine xw_getR dr_changeStack_30 fl_r_52 (xl_n hn (by decide)) rfl r_1_8 ?_
  refine xw_iload5 dr_changeStack_33 ?_
  refine xw_aload0 dr_changeStack_35 ?_
  refine xw_iconst dr_changeStack_36 ki_1 ?_
  refine xw_iload3 dr_changeStack_37 ?_
  refine xw_iconst dr_changeStack_38 ki_2 ?_
  refine xw_iload5 dr_changeStack_39 ?_
  refine xw_imul dr_changeStack_41 ?_
  refine xw_iadd dr_changeStack_42 ?_
  refine xw_ldc dr_changeStack_43 kc_r_87 ?_
  refine xw_iand dr_changeStack_45 ?_
  refine xw_cTi dr_changeStack_46 (lk_r_changeStack_46 (xl_n hn (by decide)) rfl) ok_r_wordIn (mr_wordIn hl hn hJ_s8) ⟨Nat.le_of_ble_eq_true rfl, Nat.le_of_ble_eq_true rfl⟩ rfl (fun b9 s10 h_s10 => ?_)
  have hJ_s10 : jx_J s10 := xj_o (jr_wordIn hJ_s8) h_s10
  refine xw_iast dr_changeStack_49 (by decide) (xl_n hn (by decide)) rfl vc_2_7 cn_2 ?_
  refine xw_lw (fun s11 e_s11 => ?_)
  have hJ_s11 : jx_J s11 := by rw [e_s11]; exact (jx_u hJ_s10 (by decide))
  refine xw_iinc5 dr_changeStack_50 ic_2_1 (Nat.le_of_ble_eq_true rfl) rfl ?_
  refine xw_goto dr_changeStack_53 rfl ?_
  refine xw_iload5 dr_changeStack_23 ?_
  refine xw_iload2 dr_changeStack_25 ?_
  refine xw_icmp_ge_f dr_changeStack_26 rfl (by decide) ?_
  refine xw_aload0 dr_changeStack_29 ?_
  refine xw_getR dr_changeStack_30 fl_r_52 (xl_n hn (by decide)) rfl r_1_8 ?_
  refine xw_iload5 dr_changeStack_33 ?_
  refine xw_aload0 dr_changeStack_35 ?_
  refine xw_iconst dr_changeStack_36 ki_1 ?_
  refine xw_iload3 dr_changeStack_37 ?_
  refine xw_iconst dr_changeStack_38 ki_2 ?_
  refine xw_iload5 dr_changeStack_39 ?_
  refine xw_imul dr_changeStack_41 ?_
  refine xw_iadd dr_changeStack_42 ?_
  refine xw_ldc dr_changeStack_43 kc_r_87 ?_
  refine xw_iand dr_changeStack_45 ?_
  refine xw_cTi dr_changeStack_46 (lk_r_changeStack_46 (xl_n hn (by decide)) rfl) ok_r_wordIn (mr_wordIn hl hn hJ_s11) ⟨Nat.le_of_ble_eq_true rfl, Nat.le_of_ble_eq_true rfl⟩ rfl (fun b12 s13 h_s13 => ?_)
  have hJ_s13 : jx_J s13 := xj_o (jr_wordIn hJ_s11) h_s13
  refine xw_iast dr_changeStack_49 (by decide) (xl_n hn (by decide)) rfl vc_3_7 cn_3 ?_
  refine xw_lw (fun s14 e_s14 => ?_)
  have hJ_s14 : jx_J s14 := by rw [e_s14]; exact (jx_u hJ_s13 (by decide))
  refine xw_iinc5 dr_changeStack_50 ic_3_1 (Nat.le_of_ble_eq_true rfl) rfl ?_
  refine xw_goto dr_changeStack_53 rfl ?_
  refine xw_iload5 dr_changeStack_23 ?_
  refine xw_iload2 dr_changeStack_25 ?_
  refine xw_icmp_ge_f dr_changeStack_26 rfl (by decide) ?_
  refine xw_aload0 dr_changeStack_29 ?_
  refine xw_getR dr_changeStack_30 fl_r_52 (xl_n hn (by decide)) rfl r_1_8 ?_
  refine xw_iload5 dr_changeStack_33 ?_
  refine xw_aload0 dr_changeStack_35 ?_
  refine xw_iconst dr_changeStack_36 ki_1 ?_
  refine xw_iload3 dr_changeStack_37 ?_
  refine xw_iconst dr_changeStack_38 ki_2 ?_
  refine xw_iload5 dr_changeStack_39 ?_
  refine xw_imul dr_changeStack_41 ?_
  refine xw_iadd dr_changeStack_42 ?_
  refine xw_ldc dr_changeStack_43 kc_r_87 ?_
  refine xw_iand dr_changeStack_45 ?_
  refine xw_cTi dr_changeStack_46 (lk_r_changeStack_46 (xl_n hn (by decide)) rfl) ok_r_wordIn (mr_wordIn hl hn hJ_s14) ⟨Nat.le_of_ble_eq_true rfl, Nat.le_of_ble_eq_true rfl⟩ rfl (fun b15 s16 h_s16 => ?_)
  have hJ_s16 : jx_J s16 := xj_o (jr_wordIn hJ_s14) h_s16
  refine xw_iast dr_changeStack_49 (by decide) (xl_n hn (by decide)) rfl vc_4_7 cn_4 ?_
  refine xw_lw (fun s17 e_s17 => ?_)
  have hJ_s17 : jx_J s17 := by rw [e_s17]; exact (jx_u hJ_s16 (by decide))
  refine xw_iinc5 dr_changeStack_50 ic_4_1 (Nat.le_of_ble_eq_true rfl) rfl ?_
  refine xw_goto dr_changeStack_53 rfl ?_
  refine xw_iload5 dr_changeStack_23 ?_
  refine xw_iload2 dr_changeStack_25 ?_
  refine xw_icmp_ge_f dr_changeStack_26 rfl (by decide) ?_
  refine xw_aload0 dr_changeStack_29 ?_
  refine xw_getR dr_changeStack_30 fl_r_52 (xl_n hn (by decide)) rfl r_1_8 ?_
  refine xw_iload5 dr_changeStack_33 ?_
  refine xw_aload0 dr_changeStack_35 ?_
  refine xw_iconst dr_changeStack_36 ki_1 ?_
  refine xw_iload3 dr_changeStack_37 ?_
  refine xw_iconst dr_changeStack_38 ki_2 ?_
  refine xw_iload5 dr_changeStack_39 ?_
  refine xw_imul dr_changeStack_41 ?_
  refine xw_iadd dr_changeStack_42 ?_
  refine xw_ldc dr_changeStack_43 kc_r_87 ?_
  refine xw_iand dr_changeStack_45 ?_
  refine xw_cTi dr_changeStack_46 (lk_r_changeStack_46 (xl_n hn (by decide)) rfl) ok_r_wordIn (mr_wordIn hl hn hJ_s17) ⟨Nat.le_of_ble_eq_true rfl, Nat.le_of_ble_eq_true rfl⟩ rfl (fun b18 s19 h_s19 => ?_)
  have hJ_s19 : jx_J s19 := xj_o (jr_wordIn hJ_s17) h_s19
  refine xw_iast dr_changeStack_49 (by decide) (xl_n hn (by decide)) rfl vc_5_7 cn_5 ?_
  refine xw_lw (fun s20 e_s20 => ?_)
  have hJ_s20 : jx_J s20 := by rw [e_s20]; exact (jx_u hJ_s19 (by decide))
  refine xw_iinc5 dr_changeStack_50 ic_5_1 (Nat.le_of_ble_eq_true rfl) rfl ?_
  refine xw_goto dr_changeStack_53 rfl ?_
  refine xw_iload5 dr_changeStack_23 ?_
  refine xw_iload2 dr_changeStack_25 ?_
  refine xw_icmp_ge_f dr_changeStack_26 rfl (by decide) ?_
  refine xw_aload0 dr_changeStack_29 ?_
  refine xw_getR dr_changeStack_30 fl_r_52 (xl_n hn (by decide)) rfl r_1_8 ?_
  refine xw_iload5 dr_changeStack_33 ?_
  refine xw_aload0 dr_changeStack_35 ?_
  refine xw_iconst dr_changeStack_36 ki_1 ?_
  refine xw_iload3 dr_changeStack_37 ?_
  refine xw_iconst dr_changeStack_38 ki_2 ?_
  refine xw_iload5 dr_changeStack_39 ?_
  refine xw_imul dr_changeStack_41 ?_
  refine xw_iadd dr_changeStack_42 ?_
  refine xw_ldc dr_changeStack_43 kc_r_87 ?_
  refine xw_iand dr_changeStack_45 ?_
  refine xw_cTi dr_changeStack_46 (lk_r_changeStack_46 (xl_n hn (by decide)) rfl) ok_r_wordIn (mr_wordIn hl hn hJ_s20) ⟨Nat.le_of_ble_eq_true rfl, Nat.le_of_ble_eq_true rfl⟩ rfl (fun b21 s22 h_s22 => ?_)
  have hJ_s22 : jx_J s22 := xj_o (jr_wordIn hJ_s20) h_s22
  refine xw_iast dr_changeStack_49 (by decide) (xl_n hn (by decide)) rfl vc_6_7 cn_6 ?_
  refine xw_lw (fun s23 e_s23 => ?_)
  have hJ_s23 : jx_J s23 := by rw [e_s23]; exact (jx_u hJ_s22 (by decide))
  refine xw_iinc5 dr_changeStack_50 ic_6_1 (Nat.le_of_ble_eq_true rfl) rfl ?_
  refine xw_goto dr_changeStack_53 rfl ?_
  refine xw_iload5 dr_changeStack_23 ?_
  refine xw_iload2 dr_changeStack_25 ?_
  refine xw_icmp_ge_t dr_changeStack_26 rfl (by decide) ?_
  refine xw_aload0 dr_changeStack_56 ?_
  refine xw_getR dr_changeStack_57 fl_r_19 (xl_n hn (by decide)) rfl r_1_1 ?_
  refine xw_aload0 dr_changeStack_60 ?_
  refine xw_getR dr_changeStack_61 fl_r_42 (xl_n hn (by decide)) rfl r_1_5 ?_
  refine xw_getI dr_changeStack_64 fl_r_182 (by decide) (xl_n hn (by decide)) rfl ?_
  refine xw_putI dr_changeStack_67 fl_r_157 nf_3_6 (by decide) (xl_n hn (by decide)) rfl ?_
  refine xw_lw (fun s24 e_s24 => ?_)
  have hJ_s24 : jx_J s24 := by rw [e_s24]; exact (jx_u hJ_s23 (by decide))
  refine xw_aload0 dr_changeStack_70 ?_
  refine xw_getR dr_changeStack_71 fl_r_19 (xl_n hn (by decide)) rfl r_1_1 ?_
  refine xw_getR dr_changeStack_74 fl_r_145 (xl_n hn (by decide)) rfl r_3_1 ?_
  refine xw_aload0 dr_changeStack_77 ?_
  refine xw_getR dr_changeStack_78 fl_r_45 (xl_n hn (by decide)) rfl r_1_6 ?_
  refine xw_cW dr_changeStack_81 (lk_r_changeStack_81 (xl_n hn (by decide)) rfl) ok_d_copy (md_copy hl hn (by decide) (xl_n hn (by decide)) rfl (by decide) (xl_n hn (by decide)) rfl) ⟨Nat.le_of_ble_eq_true rfl, Nat.le_of_ble_eq_true rfl⟩ ?_
  refine xw_lw (fun s25 e_s25 => ?_)
  have hJ_s25 : jx_J s25 := by rw [e_s25]; exact (jd_copy (by decide) hJ_s24)
  refine xw_aload0 dr_changeStack_84 ?_
  refine xw_getR dr_changeStack_85 fl_r_19 (xl_n hn (by decide)) rfl r_1_1 ?_
  refine xw_iload1 dr_changeStack_88 ?_
  refine xw_putI dr_changeStack_89 fl_r_151 nf_3_3 (by decide) (xl_n hn (by decide)) rfl ?_
  refine xw_lw (fun s26 e_s26 => ?_)
  have hJ_s26 : jx_J s26 := by rw [e_s26]; exact (jx_u hJ_s25 (by decide))
  refine xw_aload0 dr_changeStack_92 ?_
  refine xw_iload4 dr_changeStack_93 ?_
  refine xw_cTu dr_changeStack_95 (lk_r_changeStack_95 (xl_n hn (by decide)) rfl) ok_r_pushWord (mr_pushWord hl hn hJ_s26) ⟨Nat.le_of_ble_eq_true rfl, Nat.le_of_ble_eq_true rfl⟩ rfl (fun b27 s28 h_s28 => ?_)
  have hJ_s28 : jx_J s28 := xj_o (jr_pushWord hJ_s26) h_s28
  refine xw_aload0 dr_changeStack_98 ?_
  refine xw_iload3 dr_changeStack_99 ?_
  refine xw_cTu dr_changeStack_100 (lk_r_changeStack_100 (xl_n hn (by decide)) rfl) ok_r_pushWord (mr_pushWord hl hn hJ_s28) ⟨Nat.le_of_ble_eq_true rfl, Nat.le_of_ble_eq_true rfl⟩ rfl (fun b29 s30 h_s30 => ?_)
  have hJ_s30 : jx_J s30 := xj_o (jr_pushWord hJ_s28) h_s30
  refine xw_iload2 dr_changeStack_103 ?_
  refine xw_iconst dr_changeStack_104 ki_1 ?_
  refine xw_isubc dr_changeStack_105 sb_7_1 ?_
  refine xw_istore5 dr_changeStack_106 (Nat.le_of_ble_eq_true rfl) rfl ?_
  refine xw_iload5 dr_changeStack_108 ?_
  refine xw_if_lt_f dr_changeStack_110 rfl (by decide) ?_
  refine xw_aload0 dr_changeStack_113 ?_
  refine xw_aload0 dr_changeStack_114 ?_
  refine xw_getR dr_changeStack_115 fl_r_52 (xl_n hn (by decide)) rfl r_1_8 ?_
  refine xw_iload5 dr_changeStack_118 ?_
  refine xw_iald dr_changeStack_120 (xl_n hn (by decide)) rfl vc_6_7 cn_6 ?_
  refine xw_cTu dr_changeStack_121 (lk_r_changeStack_121 (xl_n hn (by decide)) rfl) ok_r_pushWord (mr_pushWord hl hn hJ_s30) ⟨Nat.le_of_ble_eq_true rfl, Nat.le_of_ble_eq_true rfl⟩ rfl (fun b31 s32 h_s32 => ?_)
  have hJ_s32 : jx_J s32 := xj_o (jr_pushWord hJ_s30) h_s32
  refine xw_iinc5 dr_changeStack_124 ic_6_m1 (Nat.le_of_ble_eq_true rfl) rfl ?_
  refine xw_goto dr_changeStack_127 rfl ?_
  refine xw_iload5 dr_changeStack_108 ?_
  refine xw_if_lt_f dr_changeStack_110 rfl (by decide) ?_
  refine xw_aload0 dr_changeStack_113 ?_
  refine xw_aload0 dr_changeStack_114 ?_
  refine xw_getR dr_changeStack_115 fl_r_52 (xl_n hn (by decide)) rfl r_1_8 ?_
  refine xw_iload5 dr_changeStack_118 ?_
  refine xw_iald dr_changeStack_120 (xl_n hn (by decide)) rfl vc_5_7 cn_5 ?_
  refine xw_cTu dr_changeStack_121 (lk_r_changeStack_121 (xl_n hn (by decide)) rfl) ok_r_pushWord (mr_pushWord hl hn hJ_s32) ⟨Nat.le_of_ble_eq_true rfl, Nat.le_of_ble_eq_true rfl⟩ rfl (fun b33 s34 h_s34 => ?_)
  have hJ_s34 : jx_J s34 := xj_o (jr_pushWord hJ_s32) h_s34
  refine xw_iinc5 dr_changeStack_124 ic_5_m1 (Nat.le_of_ble_eq_true rfl) rfl ?_
  refine xw_goto dr_changeStack_127 rfl ?_
  refine xw_iload5 dr_changeStack_108 ?_
  refine xw_if_lt_f dr_changeStack_110 rfl (by decide) ?_
  refine xw_aload0 dr_changeStack_113 ?_
  refine xw_aload0 dr_changeStack_114 ?_
  refine xw_getR dr_changeStack_115 fl_r_52 (xl_n hn (by decide)) rfl r_1_8 ?_
  refine xw_iload5 dr_changeStack_118 ?_
  refine xw_iald dr_changeStack_120 (xl_n hn (by decide)) rfl vc_4_7 cn_4 ?_
  refine xw_cTu dr_changeStack_121 (lk_r_changeStack_121 (xl_n hn (by decide)) rfl) ok_r_pushWord (mr_pushWord hl hn hJ_s34) ⟨Nat.le_of_ble_eq_true rfl, Nat.le_of_ble_eq_true rfl⟩ rfl (fun b35 s36 h_s36 => ?_)
  have hJ_s36 : jx_J s36 := xj_o (jr_pushWord hJ_s34) h_s36
  refine xw_iinc5 dr_changeStack_124 ic_4_m1 (Nat.le_of_ble_eq_true rfl) rfl ?_
  refine xw_goto dr_changeStack_127 rfl ?_
  refine xw_iload5 dr_changeStack_108 ?_
  refine xw_if_lt_f dr_changeStack_110 rfl (by decide) ?_
  refine xw_aload0 dr_changeStack_113 ?_
  refine xw_aload0 dr_changeStack_114 ?_
  refine xw_getR dr_changeStack_115 fl_r_52 (xl_n hn (by decide)) rfl r_1_8 ?_
  refine xw_iload5 dr_changeStack_118 ?_
  refine xw_iald dr_changeStack_120 (xl_n hn (by decide)) rfl vc_3_7 cn_3 ?_
  refine xw_cTu dr_changeStack_121 (lk_r_changeStack_121 (xl_n hn (by decide)) rfl) ok_r_pushWord (mr_pushWord hl hn hJ_s36) ⟨Nat.le_of_ble_eq_true rfl, Nat.le_of_ble_eq_true rfl⟩ rfl (fun b37 s38 h_s38 => ?_)
  have hJ_s38 : jx_J s38 := xj_o (jr_pushWord hJ_s36) h_s38
  refine xw_iinc5 dr_changeStack_124 ic_3_m1 (Nat.le_of_ble_eq_true rfl) rfl ?_
  refine xw_goto dr_changeStack_127 rfl ?_
  refine xw_iload5 dr_changeStack_108 ?_
  refine xw_if_lt_f dr_changeStack_110 rfl (by decide) ?_
  refine xw_aload0 dr_changeStack_113 ?_
  refine xw_aload0 dr_changeStack_114 ?_
  refine xw_getR dr_changeStack_115 fl_r_52 (xl_n hn (by decide)) rfl r_1_8 ?_
  refine xw_iload5 dr_changeStack_118 ?_
  refine xw_iald dr_changeStack_120 (xl_n hn (by decide)) rfl vc_2_7 cn_2 ?_
  refine xw_cTu dr_changeStack_121 (lk_r_changeStack_121 (xl_n hn (by decide)) rfl) ok_r_pushWord (mr_pushWord hl hn hJ_s38) ⟨Nat.le_of_ble_eq_true rfl, Nat.le_of_ble_eq_true rfl⟩ rfl (fun b39 s40 h_s40 => ?_)
  have hJ_s40 : jx_J s40 := xj_o (jr_pushWord hJ_s38) h_s40
  refine xw_iinc5 dr_changeStack_124 ic_2_m1 (Nat.le_of_ble_eq_true rfl) rfl ?_
  refine xw_goto dr_changeStack_127 rfl ?_
  refine xw_iload5 dr_changeStack_108 ?_
  refine xw_if_lt_f dr_changeStack_110 rfl (by decide) ?_
  refine xw_aload0 dr_changeStack_113 ?_
  refine xw_aload0 dr_changeStack_114 ?_
  refine xw_getR dr_changeStack_115 fl_r_52 (xl_n hn (by decide)) rfl r_1_8 ?_
  refine xw_iload5 dr_changeStack_118 ?_
  refine xw_iald dr_changeStack_120 (xl_n hn (by decide)) rfl vc_1_7 cn_1 ?_
  refine xw_cTu dr_changeStack_121 (lk_r_changeStack_121 (xl_n hn (by decide)) rfl) ok_r_pushWord (mr_pushWord hl hn hJ_s40) ⟨Nat.le_of_ble_eq_true rfl, Nat.le_of_ble_eq_true rfl⟩ rfl (fun b41 s42 h_s42 => ?_)
  have hJ_s42 : jx_J s42 := xj_o (jr_pushWord hJ_s40) h_s42
  refine xw_iinc5 dr_changeStack_124 ic_1_m1 (Nat.le_of_ble_eq_true rfl) rfl ?_
  refine xw_goto dr_changeStack_127 rfl ?_
  refine xw_iload5 dr_changeStack_108 ?_
  refine xw_if_lt_f dr_changeStack_110 rfl (by decide) ?_
  refine xw_aload0 dr_changeStack_113 ?_
  refine xw_aload0 dr_changeStack_114 ?_
  refine xw_getR dr_changeStack_115 fl_r_52 (xl_n hn (by decide)) rfl r_1_8 ?_
  refine xw_iload5 dr_changeStack_118 ?_
  refine xw_iald dr_changeStack_120 (xl_n hn (by decide)) rfl vc_0_7 cn_0 ?_
  refine xw_cTu dr_changeStack_121 (lk_r_changeStack_121 (xl_n hn (by decide)) rfl) ok_r_pushWord (mr_pushWord hl hn hJ_s42) ⟨Nat.le_of_ble_eq_true rfl, Nat.le_of_ble_eq_true rfl⟩ rfl (fun b43 s44 h_s44 => ?_)
  have hJ_s44 : jx_J s44 := xj_o (jr_pushWord hJ_s42) h_s44
  refine xw_iinc5 dr_changeStack_124 ic_0_m1 (Nat.le_of_ble_eq_true rfl) rfl ?_
  refine xw_goto dr_changeStack_127 rfl ?_
  refine xw_iload5 dr_changeStack_108 ?_
  refine xw_if_lt_t dr_changeStack_110 rfl (by decide) ?_
  exact xw_vret dr_changeStack_130 rfl
theorem jr_changeStack_7 {a1 : Int32} {σ : xs_S} (hJ : jx_J σ) : jx_J (fr_changeStack_7 a1 σ).2 := by
  unfold fr_changeStack_7
  refine xj_l (fun v1 e_v1 => ?_)
  refine xj_l (fun v2 e_v2 => ?_)
  refine xj_b (jr_wordIn hJ) (fun b3 s4 h_s4 hJ_s4 => ?_)
  refine xj_l (fun s5 e_s5 => ?_)
  have hJ_s5 : jx_J s5 := by rw [e_s5]; exact (jx_u hJ_s4 (by decide))
  refine xj_b (jr_wordIn hJ_s5) (fun b6 s7 h_s7 hJ_s7 => ?_)
  refine xj_l (fun s8 e_s8 => ?_)
  have hJ_s8 : jx_J s8 := by rw [e_s8]; exact (jx_u hJ_s7 (by decide))
  refine xj_b (jr_wordIn hJ_s8) (fun b9 s10 h_s10 hJ_s10 => ?_)
  refine xj_l (fun s11 e_s11 => ?_)
  have hJ_s11 : jx_J s11 := by rw [e_s11]; exact (jx_u hJ_s10 (by decide))
  refine xj_b (jr_wordIn hJ_s11) (fun b12 s13 h_s13 hJ_s13 => ?_)
  refine xj_l (fun s14 e_s14 => ?_)
  have hJ_s14 : jx_J s14 := by rw [e_s14]; exact (jx_u hJ_s13 (by decide))
  refine xj_b (jr_wordIn hJ_s14) (fun b15 s16 h_s16 hJ_s16 => ?_)
  refine xj_l (fun s17 e_s17 => ?_)
  have hJ_s17 : jx_J s17 := by rw [e_s17]; exact (jx_u hJ_s16 (by decide))
  refine xj_b (jr_wordIn hJ_s17) (fun b18 s19 h_s19 hJ_s19 => ?_)
  refine xj_l (fun s20 e_s20 => ?_)
  have hJ_s20 : jx_J s20 := by rw [e_s20]; exact (jx_u hJ_s19 (by decide))
  refine xj_b (jr_wordIn hJ_s20) (fun b21 s22 h_s22 hJ_s22 => ?_)
  refine xj_l (fun s23 e_s23 => ?_)
  have hJ_s23 : jx_J s23 := by rw [e_s23]; exact (jx_u hJ_s22 (by decide))
  refine xj_l (fun s24 e_s24 => ?_)
  have hJ_s24 : jx_J s24 := by rw [e_s24]; exact (jx_u hJ_s23 (by decide))
  refine xj_l (fun s25 e_s25 => ?_)
  have hJ_s25 : jx_J s25 := by rw [e_s25]; exact (jd_copy (by decide) hJ_s24)
  refine xj_l (fun s26 e_s26 => ?_)
  have hJ_s26 : jx_J s26 := by rw [e_s26]; exact (jx_u hJ_s25 (by decide))
  refine xj_b (jr_pushWord hJ_s26) (fun b27 s28 h_s28 hJ_s28 => ?_)
  refine xj_b (jr_pushWord hJ_s28) (fun b29 s30 h_s30 hJ_s30 => ?_)
  refine xj_b (jr_pushWord hJ_s30) (fun b31 s32 h_s32 hJ_s32 => ?_)
  refine xj_b (jr_pushWord hJ_s32) (fun b33 s34 h_s34 hJ_s34 => ?_)
  refine xj_b (jr_pushWord hJ_s34) (fun b35 s36 h_s36 hJ_s36 => ?_)
  refine xj_b (jr_pushWord hJ_s36) (fun b37 s38 h_s38 hJ_s38 => ?_)
  refine xj_b (jr_pushWord hJ_s38) (fun b39 s40 h_s40 hJ_s40 => ?_)
  refine xj_b (jr_pushWord hJ_s40) (fun b41 s42 h_s42 hJ_s42 => ?_)
  refine xj_b (jr_pushWord hJ_s42) (fun b43 s44 h_s44 hJ_s44 => ?_)
  exact hJ_s44
def fr_changeStack (a1 a2 : Int32) (σ : xs_S) : xp_P Unit := (if a2 = (0 : Int32) then fr_changeStack_0 a1 σ else (if a2 = (1 : Int32) then fr_changeStack_1 a1 σ else (if a2 = (2 : Int32) then fr_changeStack_2 a1 σ else (if a2 = (3 : Int32) then fr_changeStack_3 a1 σ else (if a2 = (4 : Int32) then fr_changeStack_4 a1 σ else (if a2 = (5 : Int32) then fr_changeStack_5 a1 σ else (if a2 = (6 : Int32) then fr_changeStack_6 a1 σ else fr_changeStack_7 a1 σ)))))))
theorem mr_changeStack {l : Launch} {N n u : Nat} {a1 a2 : Int32} {σ : xs_S} (hl : l.stackTraces = false) (hn : 29 ≤ n) (hp1 : jr_R a2 7) (hJ : jx_J σ) : xm_m (xk_k N) l tr_changeStack [.ref 1, .int a1, .int a2] (n, u, σ, xr_0) (xe_t eu_u n u (fr_changeStack a1 a2 σ)) := by
  unfold fr_changeStack
  by_cases h0 : a2 = (0 : Int32)
  · rw [if_pos h0]; subst h0; exact mr_changeStack_0 hl hn hJ
  · rw [if_neg h0]
    by_cases h1 : a2 = (1 : Int32)
    · rw [if_pos h1]; subst h1; exact mr_changeStack_1 hl hn hJ
    · rw [if_neg h1]
      by_cases h2 : a2 = (2 : Int32)
      · rw [if_pos h2]; subst h2; exact mr_changeStack_2 hl hn hJ
      · rw [if_neg h2]
        by_cases h3 : a2 = (3 : Int32)
        · rw [if_pos h3]; subst h3; exact mr_changeStack_3 hl hn hJ
        · rw [if_neg h3]
          by_cases h4 : a2 = (4 : Int32)
          · rw [if_pos h4]; subst h4; exact mr_changeStack_4 hl hn hJ
          · rw [if_neg h4]
            by_cases h5 : a2 = (5 : Int32)
            · rw [if_pos h5]; subst h5; exact mr_changeStack_5 hl hn hJ
            · rw [if_neg h5]
              by_cases h6 : a2 = (6 : Int32)
              · rw [if_pos h6]; subst h6; exact mr_changeStack_6 hl hn hJ
              · rw [if_neg h6]
                have h7 : a2 = (7 : Int32) := jr_7 hp1 h0 h1 h2 h3 h4 h5 h6
                subst h7; exact mr_changeStack_7 hl hn hJ
theorem jr_changeStack {a1 a2 : Int32} {σ : xs_S} (hJ : jx_J σ) : jx_J (fr_changeStack a1 a2 σ).2 := by
  unfold fr_changeStack
  by_cases h0 : a2 = (0 : Int32)
  · rw [if_pos h0]; exact jr_changeStack_0 hJ
  · rw [if_neg h0]
    by_cases h1 : a2 = (1 : Int32)
    · rw [if_pos h1]; exact jr_changeStack_1 hJ
    · rw [if_neg h1]
      by_cases h2 : a2 = (2 : Int32)
      · rw [if_pos h2]; exact jr_changeStack_2 hJ
      · rw [if_neg h2]
        by_cases h3 : a2 = (3 : Int32)
        · rw [if_pos h3]; exact jr_changeStack_3 hJ
        · rw [if_neg h3]
          by_cases h4 : a2 = (4 : Int32)
          · rw [if_pos h4]; exact jr_changeStack_4 hJ
          · rw [if_neg h4]
            by_cases h5 : a2 = (5 : Int32)
            · rw [if_pos h5]; exact jr_changeStack_5 hJ
            · rw [if_neg h5]
              by_cases h6 : a2 = (6 : Int32)
              · rw [if_pos h6]; exact jr_changeStack_6 hJ
              · rw [if_neg h6]
                exact jr_changeStack_7 hJ
