def fy_setNull (a1 : Int32) (a2 : Int32) (σ : xs_S) : xs_S := xl_l ((xu_u σ 20 (a1).toNatClampNeg a2)) (fun s1 => xl_l ((xu_u s1 20 (((3 : Int32) + a1)).toNatClampNeg (1 : Int32))) (fun s2 => s2))
set_option maxRecDepth 100000 in
set_option maxHeartbeats 4000000 in
theorem my_setNull {l : Launch} {N n u : Nat} {a1 : Int32} {a2 : Int32} {σ : xs_S} (hl : l.stackTraces = false) (hn : 29 ≤ n) (hp1 : vp_in a1 3) : xm_m (xk_k N) l ty_setNull [.ref 18, .int a1, .int a2] (n, u, σ, xr_0) (xe_w n u (fy_setNull a1 a2 σ)) := by
  refine xm_of hl ok_y_setNull (Nat.le_of_ble_eq_true rfl) ?_
  show xw_w (xk_k N) l ty_setNull 0 [some (.ref 18), some (.int a1), some (.int a2)] [] (n, u, σ, xr_0) (xe_w n u (fy_setNull a1 a2 σ))
  unfold fy_setNull
  refine xw_aload0 dy_setNull_0 ?_
  refine xw_getR dy_setNull_1 fl_y_13 (xl_n hn (by decide)) rfl r_18_5 ?_
  refine xw_iload1 dy_setNull_4 ?_
  refine xw_iload2 dy_setNull_5 ?_
  refine xw_iast dy_setNull_6 (by decide) (xl_n hn (by decide)) rfl (vs_0 hp1) rfl ?_
  refine xw_lw (fun s1 e_s1 => ?_)
  refine xw_aload0 dy_setNull_7 ?_
  refine xw_getR dy_setNull_8 fl_y_13 (xl_n hn (by decide)) rfl r_18_5 ?_
  refine xw_iconst dy_setNull_11 ki_3 ?_
  refine xw_iload1 dy_setNull_12 ?_
  refine xw_iadd dy_setNull_13 ?_
  refine xw_iconst dy_setNull_14 ki_1 ?_
  refine xw_iast dy_setNull_15 (by decide) (xl_n hn (by decide)) rfl (vs_k hp1 (by decide)) rfl ?_
  refine xw_lw (fun s2 e_s2 => ?_)
  exact xw_vret dy_setNull_16 rfl
theorem jy_setNull {a1 : Int32} {a2 : Int32} {σ : xs_S} (hp1 : vp_in a1 3) (hJ : yx_J σ) : yx_J (fy_setNull a1 a2 σ) := by
  unfold fy_setNull
  refine xj_wl (fun s1 e_s1 => ?_)
  have hJ_s1 : yx_J s1 := by rw [e_s1]; exact (yx_r hJ (vs_m hp1))
  refine xj_wl (fun s2 e_s2 => ?_)
  have hJ_s2 : yx_J s2 := by rw [e_s2]; exact (yx_r hJ_s1 (vs_n hp1 (by decide)))
  exact hJ_s2
def fy_within (a1 : Int32) (a2 : Int32) (a3 : Int32) (σ : xs_S) : Int32 × xs_S := xl_l ((if (σ 20 (((3 : Int32) + a1)).toNatClampNeg) = (1 : Int32) then (1 : Int32) else (if (a2 + (1 : Int32)) ≤ (σ 20 (((9 : Int32) + a1)).toNatClampNeg) then (0 : Int32) else (1 : Int32)))) (fun v1 => (if v1 = 0 then xl_l ((if a3 = 0 then σ else (if (σ 20 (((12 : Int32) + a1)).toNatClampNeg) = (4 : Int32) then σ else (fy_raise (13 : Int32) (0 : Int32) σ)))) (fun s3 => (((s3 20 (((6 : Int32) + a1)).toNatClampNeg) + a2), s3)) else xl_l ((fy_raise (if a1 = (1 : Int32) then (12 : Int32) else (13 : Int32)) (0 : Int32) σ)) (fun s4 => (((s4 20 (((6 : Int32) + a1)).toNatClampNeg) + a2), s4))))
set_option maxRecDepth 100000 in
set_option maxHeartbeats 4000000 in
theorem my_within {l : Launch} {N n u : Nat} {a1 : Int32} {a2 : Int32} {a3 : Int32} {σ : xs_S} (hl : l.stackTraces = false) (hn : 29 ≤ n) (hp1 : vp_in a1 3) : xm_m (xk_k N) l ty_within [.ref 18, .int a1, .int a2, .int a3] (n, u, σ, xr_0) (xe_p ei_i n u (fy_within a1 a2 a3 σ)) := by
  refine xm_of hl ok_y_within (Nat.le_of_ble_eq_true rfl) ?_
  show xw_w (xk_k N) l ty_within 0 [some (.ref 18), some (.int a1), some (.int a2), some (.int a3), none] [] (n, u, σ, xr_0) (xe_p ei_i n u (fy_within a1 a2 a3 σ))
  unfold fy_within
  refine xw_aload0 dy_within_0 ?_
  refine xw_getR dy_within_1 fl_y_13 (xl_n hn (by decide)) rfl r_18_5 ?_
  refine xw_iconst dy_within_4 ki_3 ?_
  refine xw_iload1 dy_within_5 ?_
  refine xw_iadd dy_within_6 ?_
  refine xw_iald dy_within_7 (xl_n hn (by decide)) rfl (vs_k hp1 (by decide)) rfl ?_
  refine xw_iconst dy_within_8 ki_1 ?_
  refine xw_icmp_eq_mi (J := 32) (a := (1 : Int32)) (b := (if (a2 + (1 : Int32)) ≤ (σ 20 (((9 : Int32) + a1)).toNatClampNeg) then (0 : Int32) else (1 : Int32))) dy_within_9 rfl (fun _ E' k' => ?_) (fun _ E' k' => ?_) ?_
  · refine xw_iconst dy_within_27 ki_1 ?_
    refine xw_goto dy_within_28 rfl ?_
    exact k'
  · refine xw_iload2 dy_within_12 ?_
    refine xw_iconst dy_within_13 ki_1 ?_
    refine xw_iadd dy_within_14 ?_
    refine xw_aload0 dy_within_15 ?_
    refine xw_getR dy_within_16 fl_y_13 (xl_n hn (by decide)) rfl r_18_5 ?_
    refine xw_bipush dy_within_19 kb_9 ?_
    refine xw_iload1 dy_within_21 ?_
    refine xw_iadd dy_within_22 ?_
    refine xw_iald dy_within_23 (xl_n hn (by decide)) rfl (vs_k hp1 (by decide)) rfl ?_
    refine xw_icmp_le_mi (J := 32) (a := (0 : Int32)) (b := (1 : Int32)) dy_within_24 rfl (fun _ E' k' => ?_) (fun _ E' k' => ?_) ?_
    · refine xw_iconst dy_within_31 ki_0 ?_
      exact k'
    · refine xw_iconst dy_within_27 ki_1 ?_
      refine xw_goto dy_within_28 rfl ?_
      exact k'
    exact k'
  refine xw_li (fun v1 e_v1 => ?_)
  refine xw_istore4 dy_within_32 (Nat.le_of_ble_eq_true rfl) rfl ?_
  refine xw_iload4 dy_within_34 ?_
  refine xw_if_eq' dy_within_36 rfl (fun h2 => ?_) (fun h2 => ?_)
  · refine xw_iload3 dy_within_59 ?_
    refine xw_if_eq_mw (J := 83) (a := σ) (b := (if (σ 20 (((12 : Int32) + a1)).toNatClampNeg) = (4 : Int32) then σ else (fy_raise (13 : Int32) (0 : Int32) σ))) dy_within_60 rfl (fun _ E' k' => ?_) (fun _ E' k' => ?_) ?_
    · exact k'
    · refine xw_aload0 dy_within_63 ?_
      refine xw_getR dy_within_64 fl_y_13 (xl_n hn (by decide)) rfl r_18_5 ?_
      refine xw_bipush dy_within_67 kb_12 ?_
      refine xw_iload1 dy_within_69 ?_
      refine xw_iadd dy_within_70 ?_
      refine xw_iald dy_within_71 (xl_n hn (by decide)) rfl (vs_k hp1 (by decide)) rfl ?_
      refine xw_iconst dy_within_72 ki_4 ?_
      refine xw_icmp_eq_mw (J := 83) (a := σ) (b := (fy_raise (13 : Int32) (0 : Int32) σ)) dy_within_73 rfl (fun _ E' k' => ?_) (fun _ E' k' => ?_) ?_
      · exact k'
      · refine xw_aload0 dy_within_76 ?_
        refine xw_bipush dy_within_77 kb_13 ?_
        refine xw_iconst dy_within_79 ki_0 ?_
        refine xw_cW dy_within_80 (lk_y_within_80 (xl_n hn (by decide)) rfl) ok_y_raise (my_raise hl hn) ⟨Nat.le_of_ble_eq_true rfl, Nat.le_of_ble_eq_true rfl⟩ ?_
        exact k'
      exact k'
    refine xw_lw (fun s3 e_s3 => ?_)
    refine xw_aload0 dy_within_83 ?_
    refine xw_getR dy_within_84 fl_y_13 (xl_n hn (by decide)) rfl r_18_5 ?_
    refine xw_bipush dy_within_87 kb_6 ?_
    refine xw_iload1 dy_within_89 ?_
    refine xw_iadd dy_within_90 ?_
    refine xw_iald dy_within_91 (xl_n hn (by decide)) rfl (vs_k hp1 (by decide)) rfl ?_
    refine xw_iload2 dy_within_92 ?_
    refine xw_iadd dy_within_93 ?_
    exact xw_iret dy_within_94 rfl
  · refine xw_aload0 dy_within_39 ?_
    refine xw_iload1 dy_within_40 ?_
    refine xw_iconst dy_within_41 ki_1 ?_
    refine xw_icmp_ne_mi (J := 52) (a := (12 : Int32)) (b := (13 : Int32)) dy_within_42 rfl (fun _ E' k' => ?_) (fun _ E' k' => ?_) ?_
    · refine xw_bipush dy_within_50 kb_13 ?_
      exact k'
    · refine xw_bipush dy_within_45 kb_12 ?_
      refine xw_goto dy_within_47 rfl ?_
      exact k'
    refine xw_iconst dy_within_52 ki_0 ?_
    refine xw_cW dy_within_53 (lk_y_within_53 (xl_n hn (by decide)) rfl) ok_y_raise (my_raise hl hn) ⟨Nat.le_of_ble_eq_true rfl, Nat.le_of_ble_eq_true rfl⟩ ?_
    refine xw_lw (fun s4 e_s4 => ?_)
    refine xw_goto dy_within_56 rfl ?_
    refine xw_aload0 dy_within_83 ?_
    refine xw_getR dy_within_84 fl_y_13 (xl_n hn (by decide)) rfl r_18_5 ?_
    refine xw_bipush dy_within_87 kb_6 ?_
    refine xw_iload1 dy_within_89 ?_
    refine xw_iadd dy_within_90 ?_
    refine xw_iald dy_within_91 (xl_n hn (by decide)) rfl (vs_k hp1 (by decide)) rfl ?_
    refine xw_iload2 dy_within_92 ?_
    refine xw_iadd dy_within_93 ?_
    exact xw_iret dy_within_94 rfl
theorem jy_within {a1 : Int32} {a2 : Int32} {a3 : Int32} {σ : xs_S} (hp1 : vp_in a1 3) (hJ : yx_J σ) : yx_J (fy_within a1 a2 a3 σ).2 := by
  unfold fy_within
  refine xj_l (fun v1 e_v1 => ?_)
  refine xj_f (fun h2 => ?_) (fun h2 => ?_)
  · refine xj_l (fun s3 e_s3 => ?_)
    have hJ_s3 : yx_J s3 := by rw [e_s3]; exact (xj_i (fun _ => hJ) (fun _ => (xj_i (fun _ => hJ) (fun _ => (jy_raise hJ)))))
    exact hJ_s3
  · refine xj_l (fun s4 e_s4 => ?_)
    have hJ_s4 : yx_J s4 := by rw [e_s4]; exact (jy_raise hJ)
    exact hJ_s4
def fy_segmentWord (a1 : Int32) (a2 : Int32) (σ : xs_S) : Int32 × xs_S := xl_l (fy_within a1 a2 (0 : Int32) σ) (fun r1 => (if (fy_isRaised r1.2) = 0 then xl_l (fy_readWord r1.1 (0 : Int32) r1.2) (fun r3 => (r3.1, r3.2)) else ((0 : Int32), r1.2)))
set_option maxRecDepth 100000 in
set_option maxHeartbeats 4000000 in
theorem my_segmentWord {l : Launch} {N n u : Nat} {a1 : Int32} {a2 : Int32} {σ : xs_S} (hl : l.stackTraces = false) (hn : 29 ≤ n) (hp1 : vp_in a1 3) (hJ : yx_J σ) : xm_m (xk_k N) l ty_segmentWord [.ref 18, .int a1, .int a2] (n, u, σ, xr_0) (xe_p ei_i n u (fy_segmentWord a1 a2 σ)) := by
  refine xm_of hl ok_y_segmentWord (Nat.le_of_ble_eq_true rfl) ?_
  show xw_w (xk_k N) l ty_segmentWord 0 [some (.ref 18), some (.int a1), some (.int a2), none] [] (n, u, σ, xr_0) (xe_p ei_i n u (fy_segmentWord a1 a2 σ))
  unfold fy_segmentWord
  refine xw_aload0 dy_segmentWord_0 ?_
  refine xw_iload1 dy_segmentWord_1 ?_
  refine xw_iload2 dy_segmentWord_2 ?_
  refine xw_iconst dy_segmentWord_3 ki_0 ?_
  refine xw_cPi dy_segmentWord_4 (lk_y_segmentWord_4 (xl_n hn (by decide)) rfl) ok_y_within (my_within hl hn hp1) ⟨Nat.le_of_ble_eq_true rfl, Nat.le_of_ble_eq_true rfl⟩ ?_
  refine xw_lpi (fun r1 e_r1 => ?_)
  have hJ_r1 : yx_J r1.2 := by rw [e_r1]; exact (jy_within hp1 hJ)
  refine xw_istore3 dy_segmentWord_7 (Nat.le_of_ble_eq_true rfl) rfl ?_
  refine xw_aload0 dy_segmentWord_8 ?_
  refine xw_cVi dy_segmentWord_9 (lk_y_segmentWord_9 (xl_n hn (by decide)) rfl) ok_y_isRaised (my_isRaised hl hn) ⟨Nat.le_of_ble_eq_true rfl, Nat.le_of_ble_eq_true rfl⟩ ?_
  refine xw_if_eq' dy_segmentWord_12 rfl (fun h2 => ?_) (fun h2 => ?_)
  · refine xw_aload0 dy_segmentWord_19 ?_
    refine xw_iload3 dy_segmentWord_20 ?_
    refine xw_iconst dy_segmentWord_21 ki_0 ?_
    refine xw_cPi dy_segmentWord_22 (lk_y_segmentWord_22 (xl_n hn (by decide)) rfl) ok_y_readWord (my_readWord hl hn hJ_r1) ⟨Nat.le_of_ble_eq_true rfl, Nat.le_of_ble_eq_true rfl⟩ ?_
    refine xw_lpi (fun r3 e_r3 => ?_)
    have hJ_r3 : yx_J r3.2 := by rw [e_r3]; exact (jy_readWord hJ_r1)
    exact xw_iret dy_segmentWord_25 rfl
  · refine xw_iconst dy_segmentWord_15 ki_0 ?_
    refine xw_goto dy_segmentWord_16 rfl ?_
    exact xw_iret dy_segmentWord_25 rfl
theorem jy_segmentWord {a1 : Int32} {a2 : Int32} {σ : xs_S} (hp1 : vp_in a1 3) (hJ : yx_J σ) : yx_J (fy_segmentWord a1 a2 σ).2 := by
  unfold fy_segmentWord
  refine xj_l (fun r1 e_r1 => ?_)
  have hJ_r1 : yx_J r1.2 := by rw [e_r1]; exact (jy_within hp1 hJ)
  refine xj_f (fun h2 => ?_) (fun h2 => ?_)
  · refine xj_l (fun r3 e_r3 => ?_)
    have hJ_r3 : yx_J r3.2 := by rw [e_r3]; exact (jy_readWord hJ_r1)
    exact hJ_r3
  · exact hJ_r1
def fy_setSegmentWord (a1 : Int32) (a2 : Int32) (a3 : Int32) (σ : xs_S) : xs_S := xl_l (fy_within a1 a2 (1 : Int32) σ) (fun r1 => (if (fy_isRaised r1.2) = 0 then xl_l ((fy_writeWord r1.1 a3 (0 : Int32) r1.2)) (fun s3 => s3) else r1.2))
set_option maxRecDepth 100000 in
set_option maxHeartbeats 4000000 in
theorem my_setSegmentWord {l : Launch} {N n u : Nat} {a1 : Int32} {a2 : Int32} {a3 : Int32} {σ : xs_S} (hl : l.stackTraces = false) (hn : 29 ≤ n) (hp1 : vp_in a1 3) (hJ : yx_J σ) : xm_m (xk_k N) l ty_setSegmentWord [.ref 18, .int a1, .int a2, .int a3] (n, u, σ, xr_0) (xe_w n u (fy_setSegmentWord a1 a2 a3 σ)) := by
  refine xm_of hl ok_y_setSegmentWord (Nat.le_of_ble_eq_true rfl) ?_
  show xw_w (xk_k N) l ty_setSegmentWord 0 [some (.ref 18), some (.int a1), some (.int a2), some (.int a3), none] [] (n, u, σ, xr_0) (xe_w n u (fy_setSegmentWord a1 a2 a3 σ))
  unfold fy_setSegmentWord
  refine xw_aload0 dy_setSegmentWord_0 ?_
  refine xw_iload1 dy_setSegmentWord_1 ?_
  refine xw_iload2 dy_setSegmentWord_2 ?_
  refine xw_iconst dy_setSegmentWord_3 ki_1 ?_
  refine xw_cPi dy_setSegmentWord_4 (lk_y_setSegmentWord_4 (xl_n hn (by decide)) rfl) ok_y_within (my_within hl hn hp1) ⟨Nat.le_of_ble_eq_true rfl, Nat.le_of_ble_eq_true rfl⟩ ?_
  refine xw_lpi (fun r1 e_r1 => ?_)
  have hJ_r1 : yx_J r1.2 := by rw [e_r1]; exact (jy_within hp1 hJ)
  refine xw_istore4 dy_setSegmentWord_7 (Nat.le_of_ble_eq_true rfl) rfl ?_
  refine xw_aload0 dy_setSegmentWord_9 ?_
  refine xw_cVi dy_setSegmentWord_10 (lk_y_setSegmentWord_10 (xl_n hn (by decide)) rfl) ok_y_isRaised (my_isRaised hl hn) ⟨Nat.le_of_ble_eq_true rfl, Nat.le_of_ble_eq_true rfl⟩ ?_
  refine xw_if_ne' dy_setSegmentWord_13 rfl (fun h2 => ?_) (fun h2 => ?_)
  · exact xw_vret dy_setSegmentWord_24 rfl
  · refine xw_aload0 dy_setSegmentWord_16 ?_
    refine xw_iload4 dy_setSegmentWord_17 ?_
    refine xw_iload3 dy_setSegmentWord_19 ?_
    refine xw_iconst dy_setSegmentWord_20 ki_0 ?_
    refine xw_cW dy_setSegmentWord_21 (lk_y_setSegmentWord_21 (xl_n hn (by decide)) rfl) ok_y_writeWord (my_writeWord hl hn hJ_r1) ⟨Nat.le_of_ble_eq_true rfl, Nat.le_of_ble_eq_true rfl⟩ ?_
    refine xw_lw (fun s3 e_s3 => ?_)
    have hJ_s3 : yx_J s3 := by rw [e_s3]; exact (jy_writeWord hJ_r1)
    exact xw_vret dy_setSegmentWord_24 rfl
theorem jy_setSegmentWord {a1 : Int32} {a2 : Int32} {a3 : Int32} {σ : xs_S} (hp1 : vp_in a1 3) (hJ : yx_J σ) : yx_J (fy_setSegmentWord a1 a2 a3 σ) := by
  unfold fy_setSegmentWord
  refine xj_wl (fun r1 e_r1 => ?_)
  have hJ_r1 : yx_J r1.2 := by rw [e_r1]; exact (jy_within hp1 hJ)
  refine xj_wf (fun h2 => ?_) (fun h2 => ?_)
  · refine xj_wl (fun s3 e_s3 => ?_)
    have hJ_s3 : yx_J s3 := by rw [e_s3]; exact (jy_writeWord hJ_r1)
    exact hJ_s3
  · exact hJ_r1
def fy_pushWord (a1 : Int32) (σ : xs_S) : xs_S := (if (fy_isRaised σ) = 0 then xl_l ((xu_u σ 20 18 (((σ 20 18) - (2 : Int32)) &&& (65535 : Int32)))) (fun s2 => xl_l ((fy_setSegmentWord (1 : Int32) (s2 20 18) a1 s2)) (fun s3 => s3)) else σ)
set_option maxRecDepth 100000 in
set_option maxHeartbeats 4000000 in
theorem my_pushWord {l : Launch} {N n u : Nat} {a1 : Int32} {σ : xs_S} (hl : l.stackTraces = false) (hn : 29 ≤ n) (hJ : yx_J σ) : xm_m (xk_k N) l ty_pushWord [.ref 18, .int a1] (n, u, σ, xr_0) (xe_w n u (fy_pushWord a1 σ)) := by
  refine xm_of hl ok_y_pushWord (Nat.le_of_ble_eq_true rfl) ?_
  show xw_w (xk_k N) l ty_pushWord 0 [some (.ref 18), some (.int a1)] [] (n, u, σ, xr_0) (xe_w n u (fy_pushWord a1 σ))
  unfold fy_pushWord
  refine xw_aload0 dy_pushWord_0 ?_
  refine xw_cVi dy_pushWord_1 (lk_y_pushWord_1 (xl_n hn (by decide)) rfl) ok_y_isRaised (my_isRaised hl hn) ⟨Nat.le_of_ble_eq_true rfl, Nat.le_of_ble_eq_true rfl⟩ ?_
  refine xw_if_eq' dy_pushWord_4 rfl (fun h1 => ?_) (fun h1 => ?_)
  · refine xw_aload0 dy_pushWord_8 ?_
    refine xw_getR dy_pushWord_9 fl_y_13 (xl_n hn (by decide)) rfl r_18_5 ?_
    refine xw_bipush dy_pushWord_12 kb_18 ?_
    refine xw_aload0 dy_pushWord_14 ?_
    refine xw_getR dy_pushWord_15 fl_y_13 (xl_n hn (by decide)) rfl r_18_5 ?_
    refine xw_bipush dy_pushWord_18 kb_18 ?_
    refine xw_iald dy_pushWord_20 (xl_n hn (by decide)) rfl vc_18_26 cn_18 ?_
    refine xw_iconst dy_pushWord_21 ki_2 ?_
    refine xw_isub dy_pushWord_22 ?_
    refine xw_ldc dy_pushWord_23 kc_y_97 ?_
    refine xw_iand dy_pushWord_25 ?_
    refine xw_iast dy_pushWord_26 (by decide) (xl_n hn (by decide)) rfl vc_18_26 cn_18 ?_
    refine xw_lw (fun s2 e_s2 => ?_)
    have hJ_s2 : yx_J s2 := by rw [e_s2]; exact (yx_u hJ (by decide))
    refine xw_aload0 dy_pushWord_27 ?_
    refine xw_iconst dy_pushWord_28 ki_1 ?_
    refine xw_aload0 dy_pushWord_29 ?_
    refine xw_getR dy_pushWord_30 fl_y_13 (xl_n hn (by decide)) rfl r_18_5 ?_
    refine xw_bipush dy_pushWord_33 kb_18 ?_
    refine xw_iald dy_pushWord_35 (xl_n hn (by decide)) rfl vc_18_26 cn_18 ?_
    refine xw_iload1 dy_pushWord_36 ?_
    refine xw_cW dy_pushWord_37 (lk_y_pushWord_37 (xl_n hn (by decide)) rfl) ok_y_setSegmentWord (my_setSegmentWord hl hn vc_1_3 hJ_s2) ⟨Nat.le_of_ble_eq_true rfl, Nat.le_of_ble_eq_true rfl⟩ ?_
    refine xw_lw (fun s3 e_s3 => ?_)
    have hJ_s3 : yx_J s3 := by rw [e_s3]; exact (jy_setSegmentWord vc_1_3 hJ_s2)
    exact xw_vret dy_pushWord_40 rfl
  · exact xw_vret dy_pushWord_7 rfl
theorem jy_pushWord {a1 : Int32} {σ : xs_S} (hJ : yx_J σ) : yx_J (fy_pushWord a1 σ) := by
  unfold fy_pushWord
  refine xj_wf (fun h1 => ?_) (fun h1 => ?_)
  · refine xj_wl (fun s2 e_s2 => ?_)
    have hJ_s2 : yx_J s2 := by rw [e_s2]; exact (yx_u hJ (by decide))
    refine xj_wl (fun s3 e_s3 => ?_)
    have hJ_s3 : yx_J s3 := by rw [e_s3]; exact (jy_setSegmentWord vc_1_3 hJ_s2)
    exact hJ_s3
  · exact hJ
def fy_popWord (σ : xs_S) : Int32 × xs_S := (if (fy_isRaised σ) = 0 then xl_l (fy_segmentWord (1 : Int32) (σ 20 18) σ) (fun r2 => xl_l ((xu_u r2.2 20 18 (((r2.2 20 18) + (2 : Int32)) &&& (65535 : Int32)))) (fun s3 => (r2.1, s3))) else ((0 : Int32), σ))
set_option maxRecDepth 100000 in
set_option maxHeartbeats 4000000 in
theorem my_popWord {l : Launch} {N n u : Nat} {σ : xs_S} (hl : l.stackTraces = false) (hn : 29 ≤ n) (hJ : yx_J σ) : xm_m (xk_k N) l ty_popWord [.ref 18] (n, u, σ, xr_0) (xe_p ei_i n u (fy_popWord σ)) := by
  refine xm_of hl ok_y_popWord (Nat.le_of_ble_eq_true rfl) ?_
  show xw_w (xk_k N) l ty_popWord 0 [some (.ref 18), none] [] (n, u, σ, xr_0) (xe_p ei_i n u (fy_popWord σ))
  unfold fy_popWord
  refine xw_aload0 dy_popWord_0 ?_
  refine xw_cVi dy_popWord_1 (lk_y_popWord_1 (xl_n hn (by decide)) rfl) ok_y_isRaised (my_isRaised hl hn) ⟨Nat.le_of_ble_eq_true rfl, Nat.le_of_ble_eq_true rfl⟩ ?_
  refine xw_if_eq' dy_popWord_4 rfl (fun h1 => ?_) (fun h1 => ?_)
  · refine xw_aload0 dy_popWord_9 ?_
    refine xw_iconst dy_popWord_10 ki_1 ?_
    refine xw_aload0 dy_popWord_11 ?_
    refine xw_getR dy_popWord_12 fl_y_13 (xl_n hn (by decide)) rfl r_18_5 ?_
    refine xw_bipush dy_popWord_15 kb_18 ?_
    refine xw_iald dy_popWord_17 (xl_n hn (by decide)) rfl vc_18_26 cn_18 ?_
    refine xw_cPi dy_popWord_18 (lk_y_popWord_18 (xl_n hn (by decide)) rfl) ok_y_segmentWord (my_segmentWord hl hn vc_1_3 hJ) ⟨Nat.le_of_ble_eq_true rfl, Nat.le_of_ble_eq_true rfl⟩ ?_
    refine xw_lpi (fun r2 e_r2 => ?_)
    have hJ_r2 : yx_J r2.2 := by rw [e_r2]; exact (jy_segmentWord vc_1_3 hJ)
    refine xw_istore1 dy_popWord_21 (Nat.le_of_ble_eq_true rfl) rfl ?_
    refine xw_aload0 dy_popWord_22 ?_
    refine xw_getR dy_popWord_23 fl_y_13 (xl_n hn (by decide)) rfl r_18_5 ?_
    refine xw_bipush dy_popWord_26 kb_18 ?_
    refine xw_aload0 dy_popWord_28 ?_
    refine xw_getR dy_popWord_29 fl_y_13 (xl_n hn (by decide)) rfl r_18_5 ?_
    refine xw_bipush dy_popWord_32 kb_18 ?_
    refine xw_iald dy_popWord_34 (xl_n hn (by decide)) rfl vc_18_26 cn_18 ?_
    refine xw_iconst dy_popWord_35 ki_2 ?_
    refine xw_iadd dy_popWord_36 ?_
    refine xw_ldc dy_popWord_37 kc_y_97 ?_
    refine xw_iand dy_popWord_39 ?_
    refine xw_iast dy_popWord_40 (by decide) (xl_n hn (by decide)) rfl vc_18_26 cn_18 ?_
    refine xw_lw (fun s3 e_s3 => ?_)
    have hJ_s3 : yx_J s3 := by rw [e_s3]; exact (yx_u hJ_r2 (by decide))
    refine xw_iload1 dy_popWord_41 ?_
    exact xw_iret dy_popWord_42 rfl
  · refine xw_iconst dy_popWord_7 ki_0 ?_
    exact xw_iret dy_popWord_8 rfl
theorem jy_popWord {σ : xs_S} (hJ : yx_J σ) : yx_J (fy_popWord σ).2 := by
  unfold fy_popWord
  refine xj_f (fun h1 => ?_) (fun h1 => ?_)
  · refine xj_l (fun r2 e_r2 => ?_)
    have hJ_r2 : yx_J r2.2 := by rw [e_r2]; exact (jy_segmentWord vc_1_3 hJ)
    refine xj_l (fun s3 e_s3 => ?_)
    have hJ_s3 : yx_J s3 := by rw [e_s3]; exact (yx_u hJ_r2 (by decide))
    exact hJ_s3
  · exact hJ
def fy_nextIp (σ : xs_S) : Int32 := (((σ 20 19) + (1 : Int32)) &&& (65535 : Int32))
set_option maxRecDepth 100000 in
set_option maxHeartbeats 4000000 in
theorem my_nextIp {l : Launch} {N n u : Nat} {σ : xs_S} (hl : l.stackTraces = false) (hn : 29 ≤ n) : xm_m (xk_k N) l ty_nextIp [.ref 18] (n, u, σ, xr_0) (xe_v ei_i n u σ (fy_nextIp σ)) := by
  refine xm_of hl ok_y_nextIp (Nat.le_of_ble_eq_true rfl) ?_
  show xw_w (xk_k N) l ty_nextIp 0 [some (.ref 18)] [] (n, u, σ, xr_0) (xe_v ei_i n u σ (fy_nextIp σ))
  unfold fy_nextIp
  refine xw_aload0 dy_nextIp_0 ?_
  refine xw_getR dy_nextIp_1 fl_y_13 (xl_n hn (by decide)) rfl r_18_5 ?_
  refine xw_bipush dy_nextIp_4 kb_19 ?_
  refine xw_iald dy_nextIp_6 (xl_n hn (by decide)) rfl vc_19_26 cn_19 ?_
  refine xw_iconst dy_nextIp_7 ki_1 ?_
  refine xw_iadd dy_nextIp_8 ?_
  refine xw_ldc dy_nextIp_9 kc_y_97 ?_
  refine xw_iand dy_nextIp_11 ?_
  exact xw_iret dy_nextIp_12 rfl
def fy_enter (a1 : Int32) (a2 : Int32) (σ : xs_S) : xs_S := (if (fy_isRaised σ) = 0 then (if a2 ≤ (σ 23 0) then xl_l ((fy_setSegment (0 : Int32) ((fy_codeOf a1 σ) ||| (σ 20 21)) (0 : Int32) σ)) (fun s3 => xl_l ((xu_u s3 20 19 a2)) (fun s4 => xl_l ((xu_u s4 18 11 ((1 : Int32) &&& 1))) (fun s5 => s5))) else xl_l ((fy_raise (13 : Int32) (0 : Int32) σ)) (fun s6 => s6)) else σ)
set_option maxRecDepth 100000 in
set_option maxHeartbeats 4000000 in
theorem my_enter {l : Launch} {N n u : Nat} {a1 : Int32} {a2 : Int32} {σ : xs_S} (hl : l.stackTraces = false) (hn : 29 ≤ n) : xm_m (xk_k N) l ty_enter [.ref 18, .int a1, .int a2] (n, u, σ, xr_0) (xe_w n u (fy_enter a1 a2 σ)) := by
  refine xm_of hl ok_y_enter (Nat.le_of_ble_eq_true rfl) ?_
  show xw_w (xk_k N) l ty_enter 0 [some (.ref 18), some (.int a1), some (.int a2)] [] (n, u, σ, xr_0) (xe_w n u (fy_enter a1 a2 σ))
  unfold fy_enter
  refine xw_aload0 dy_enter_0 ?_
  refine xw_cVi dy_enter_1 (lk_y_enter_1 (xl_n hn (by decide)) rfl) ok_y_isRaised (my_isRaised hl hn) ⟨Nat.le_of_ble_eq_true rfl, Nat.le_of_ble_eq_true rfl⟩ ?_
  refine xw_if_eq' dy_enter_4 rfl (fun h1 => ?_) (fun h1 => ?_)
  · refine xw_iload2 dy_enter_8 ?_
    refine xw_aload0 dy_enter_9 ?_
    refine xw_getR dy_enter_10 fl_y_26 (xl_n hn (by decide)) rfl r_18_13 ?_
    refine xw_iconst dy_enter_13 ki_0 ?_
    refine xw_iald dy_enter_14 (xl_n hn (by decide)) rfl vc_0_2 cn_0 ?_
    refine xw_icmp_le' dy_enter_15 rfl (fun h2 => ?_) (fun h2 => ?_)
    · refine xw_aload0 dy_enter_26 ?_
      refine xw_iconst dy_enter_27 ki_0 ?_
      refine xw_iload1 dy_enter_28 ?_
      refine xw_cVi dy_enter_29 (lk_y_enter_29) ok_y_codeOf (my_codeOf hl hn) ⟨Nat.le_of_ble_eq_true rfl, Nat.le_of_ble_eq_true rfl⟩ ?_
      refine xw_aload0 dy_enter_32 ?_
      refine xw_getR dy_enter_33 fl_y_13 (xl_n hn (by decide)) rfl r_18_5 ?_
      refine xw_bipush dy_enter_36 kb_21 ?_
      refine xw_iald dy_enter_38 (xl_n hn (by decide)) rfl vc_21_26 cn_21 ?_
      refine xw_ior dy_enter_39 ?_
      refine xw_iconst dy_enter_40 ki_0 ?_
      refine xw_cW dy_enter_41 (lk_y_enter_41 (xl_n hn (by decide)) rfl) ok_y_setSegment (my_setSegment hl hn vc_0_3 vc_0_2) ⟨Nat.le_of_ble_eq_true rfl, Nat.le_of_ble_eq_true rfl⟩ ?_
      refine xw_lw (fun s3 e_s3 => ?_)
      refine xw_aload0 dy_enter_44 ?_
      refine xw_getR dy_enter_45 fl_y_13 (xl_n hn (by decide)) rfl r_18_5 ?_
      refine xw_bipush dy_enter_48 kb_19 ?_
      refine xw_iload2 dy_enter_50 ?_
      refine xw_iast dy_enter_51 (by decide) (xl_n hn (by decide)) rfl vc_19_26 cn_19 ?_
      refine xw_lw (fun s4 e_s4 => ?_)
      refine xw_aload0 dy_enter_52 ?_
      refine xw_iconst dy_enter_53 ki_1 ?_
      refine xw_putZ dy_enter_54 fl_y_109 nf_5_11 (by decide) (xl_n hn (by decide)) rfl ?_
      refine xw_lw (fun s5 e_s5 => ?_)
      exact xw_vret dy_enter_57 rfl
    · refine xw_aload0 dy_enter_18 ?_
      refine xw_bipush dy_enter_19 kb_13 ?_
      refine xw_iconst dy_enter_21 ki_0 ?_
      refine xw_cW dy_enter_22 (lk_y_enter_22 (xl_n hn (by decide)) rfl) ok_y_raise (my_raise hl hn) ⟨Nat.le_of_ble_eq_true rfl, Nat.le_of_ble_eq_true rfl⟩ ?_
      refine xw_lw (fun s6 e_s6 => ?_)
      exact xw_vret dy_enter_25 rfl
  · exact xw_vret dy_enter_7 rfl
theorem jy_enter {a1 : Int32} {a2 : Int32} {σ : xs_S} (hJ : yx_J σ) : yx_J (fy_enter a1 a2 σ) := by
  unfold fy_enter
  refine xj_wf (fun h1 => ?_) (fun h1 => ?_)
  · refine xj_wf (fun h2 => ?_) (fun h2 => ?_)
    · refine xj_wl (fun s3 e_s3 => ?_)
      have hJ_s3 : yx_J s3 := by rw [e_s3]; exact (jy_setSegment vc_0_3 vc_0_2 hJ)
      refine xj_wl (fun s4 e_s4 => ?_)
      have hJ_s4 : yx_J s4 := by rw [e_s4]; exact (yx_u hJ_s3 (by decide))
      refine xj_wl (fun s5 e_s5 => ?_)
      have hJ_s5 : yx_J s5 := by rw [e_s5]; exact (yx_u hJ_s4 (by decide))
      exact hJ_s5
    · refine xj_wl (fun s6 e_s6 => ?_)
      have hJ_s6 : yx_J s6 := by rw [e_s6]; exact (jy_raise hJ)
      exact hJ_s6
  · exact hJ
def fy_isDirect (σ : xs_S) : Int32 := (if (σ 24 0) = (1 : Int32) then (if (σ 25 0) = (σ 20 21) then (1 : Int32) else (if (σ 24 0) = (2 : Int32) then (if (σ 20 21) < (σ 25 0) then (0 : Int32) else (1 : Int32)) else (0 : Int32))) else (if (σ 24 0) = (2 : Int32) then (if (σ 20 21) < (σ 25 0) then (0 : Int32) else (1 : Int32)) else (0 : Int32)))
set_option maxRecDepth 100000 in
set_option maxHeartbeats 4000000 in
theorem my_isDirect {l : Launch} {N n u : Nat} {σ : xs_S} (hl : l.stackTraces = false) (hn : 29 ≤ n) : xm_m (xk_k N) l ty_isDirect [.ref 18] (n, u, σ, xr_0) (xe_v ei_i n u σ (fy_isDirect σ)) := by
  refine xm_of hl ok_y_isDirect (Nat.le_of_ble_eq_true rfl) ?_
  show xw_w (xk_k N) l ty_isDirect 0 [some (.ref 18)] [] (n, u, σ, xr_0) (xe_v ei_i n u σ (fy_isDirect σ))
  unfold fy_isDirect
  refine xw_aload0 dy_isDirect_0 ?_
  refine xw_getR dy_isDirect_1 fl_y_29 (xl_n hn (by decide)) rfl r_18_14 ?_
  refine xw_iconst dy_isDirect_4 ki_0 ?_
  refine xw_iald dy_isDirect_5 (xl_n hn (by decide)) rfl vc_0_2 cn_0 ?_
  refine xw_iconst dy_isDirect_6 ki_1 ?_
  refine xw_icmp_ne' dy_isDirect_7 rfl (fun h1 => ?_) (fun h1 => ?_)
  · refine xw_aload0 dy_isDirect_26 ?_
    refine xw_getR dy_isDirect_27 fl_y_29 (xl_n hn (by decide)) rfl r_18_14 ?_
    refine xw_iconst dy_isDirect_30 ki_0 ?_
    refine xw_iald dy_isDirect_31 (xl_n hn (by decide)) rfl vc_0_2 cn_0 ?_
    refine xw_iconst dy_isDirect_32 ki_2 ?_
    refine xw_icmp_ne' dy_isDirect_33 rfl (fun h2 => ?_) (fun h2 => ?_)
    · refine xw_iconst dy_isDirect_56 ki_0 ?_
      exact xw_zret dy_isDirect_57 rfl (by decide)
    · refine xw_aload0 dy_isDirect_36 ?_
      refine xw_getR dy_isDirect_37 fl_y_32 (xl_n hn (by decide)) rfl r_18_15 ?_
      refine xw_iconst dy_isDirect_40 ki_0 ?_
      refine xw_iald dy_isDirect_41 (xl_n hn (by decide)) rfl vc_0_2 cn_0 ?_
      refine xw_aload0 dy_isDirect_42 ?_
      refine xw_getR dy_isDirect_43 fl_y_13 (xl_n hn (by decide)) rfl r_18_5 ?_
      refine xw_bipush dy_isDirect_46 kb_21 ?_
      refine xw_iald dy_isDirect_48 (xl_n hn (by decide)) rfl vc_21_26 cn_21 ?_
      refine xw_icmp_gt' dy_isDirect_49 rfl (fun h3 => ?_) (fun h3 => ?_)
      · refine xw_iconst dy_isDirect_56 ki_0 ?_
        exact xw_zret dy_isDirect_57 rfl (by decide)
      · refine xw_iconst dy_isDirect_52 ki_1 ?_
        refine xw_goto dy_isDirect_53 rfl ?_
        exact xw_zret dy_isDirect_57 rfl (by decide)
  · refine xw_aload0 dy_isDirect_10 ?_
    refine xw_getR dy_isDirect_11 fl_y_32 (xl_n hn (by decide)) rfl r_18_15 ?_
    refine xw_iconst dy_isDirect_14 ki_0 ?_
    refine xw_iald dy_isDirect_15 (xl_n hn (by decide)) rfl vc_0_2 cn_0 ?_
    refine xw_aload0 dy_isDirect_16 ?_
    refine xw_getR dy_isDirect_17 fl_y_13 (xl_n hn (by decide)) rfl r_18_5 ?_
    refine xw_bipush dy_isDirect_20 kb_21 ?_
    refine xw_iald dy_isDirect_22 (xl_n hn (by decide)) rfl vc_21_26 cn_21 ?_
    refine xw_icmp_eq' dy_isDirect_23 rfl (fun h4 => ?_) (fun h4 => ?_)
    · refine xw_iconst dy_isDirect_52 ki_1 ?_
      refine xw_goto dy_isDirect_53 rfl ?_
      exact xw_zret dy_isDirect_57 rfl (by decide)
    · refine xw_aload0 dy_isDirect_26 ?_
      refine xw_getR dy_isDirect_27 fl_y_29 (xl_n hn (by decide)) rfl r_18_14 ?_
      refine xw_iconst dy_isDirect_30 ki_0 ?_
      refine xw_iald dy_isDirect_31 (xl_n hn (by decide)) rfl vc_0_2 cn_0 ?_
      refine xw_iconst dy_isDirect_32 ki_2 ?_
      refine xw_icmp_ne' dy_isDirect_33 rfl (fun h5 => ?_) (fun h5 => ?_)
      · refine xw_iconst dy_isDirect_56 ki_0 ?_
        exact xw_zret dy_isDirect_57 rfl (by decide)
      · refine xw_aload0 dy_isDirect_36 ?_
        refine xw_getR dy_isDirect_37 fl_y_32 (xl_n hn (by decide)) rfl r_18_15 ?_
        refine xw_iconst dy_isDirect_40 ki_0 ?_
        refine xw_iald dy_isDirect_41 (xl_n hn (by decide)) rfl vc_0_2 cn_0 ?_
        refine xw_aload0 dy_isDirect_42 ?_
        refine xw_getR dy_isDirect_43 fl_y_13 (xl_n hn (by decide)) rfl r_18_5 ?_
        refine xw_bipush dy_isDirect_46 kb_21 ?_
        refine xw_iald dy_isDirect_48 (xl_n hn (by decide)) rfl vc_21_26 cn_21 ?_
        refine xw_icmp_gt' dy_isDirect_49 rfl (fun h6 => ?_) (fun h6 => ?_)
        · refine xw_iconst dy_isDirect_56 ki_0 ?_
          exact xw_zret dy_isDirect_57 rfl (by decide)
        · refine xw_iconst dy_isDirect_52 ki_1 ?_
          refine xw_goto dy_isDirect_53 rfl ?_
          exact xw_zret dy_isDirect_57 rfl (by decide)
def fy_inner_0 (a1 : Int32) (σ : xs_S) : xs_S := xl_l (fy_readWord (((σ 20 23) + ((4 : Int32) * a1)) + (2 : Int32)) (1 : Int32) σ) (fun r1 => (if (fy_isRaised r1.2) = 0 then xl_l (fy_readWord (((r1.2 20 23) + ((4 : Int32) * a1)) + (4 : Int32)) (1 : Int32) r1.2) (fun r3 => (if (fy_isRaised r3.2) = 0 then xl_l ((if (fy_isNull r3.1 r3.2) = 0 then (fy_lookUp r3.1 (1 : Int32) r3.2) else (fy_raise (10 : Int32) (0 : Int32) r3.2))) (fun s5 => (if (fy_isRaised s5) = 0 then xl_l ((if (s5 24 1) = (4 : Int32) then (if (s5 25 1) = a1 then (if (r3.1 &&& (3 : Int32)) = a1 then (if (s5 26 1) = 0 then (fy_raise (12 : Int32) (fy_codeOf r3.1 s5) s5) else s5) else (fy_raise (10 : Int32) (fy_codeOf r3.1 s5) s5)) else (fy_raise (10 : Int32) (fy_codeOf r3.1 s5) s5)) else (fy_raise (10 : Int32) (fy_codeOf r3.1 s5) s5))) (fun s7 => (if (fy_isRaised s7) = 0 then xl_l ((s7 20 1)) (fun v9 => xl_l ((s7 20 18)) (fun v10 => xl_l ((xu_u s7 20 21 a1)) (fun s11 => xl_l ((fy_setSegment (1 : Int32) r3.1 (1 : Int32) s11)) (fun s12 => xl_l ((xu_u s12 20 18 r1.1)) (fun s13 => xl_l ((fy_pushWord v9 s13)) (fun s14 => xl_l ((fy_pushWord v10 s14)) (fun s15 => s15))))))) else s7)) else s5)) else r3.2)) else r1.2))
set_option maxRecDepth 100000 in
set_option maxHeartbeats 4000000 in
theorem my_inner_0 {l : Launch} {N n u : Nat} {a1 : Int32} {σ : xs_S} (hl : l.stackTraces = false) (hn : 29 ≤ n) (hJ : yx_J σ) : xm_m (xk_k N) l ty_inner [.ref 18, .int a1, .int (0 : Int32)] (n, u, σ, xr_0) (xe_w n u (fy_inner_0 a1 σ)) := by
  refine xm_of hl ok_y_inner (Nat.le_of_ble_eq_true rfl) ?_
  show xw_w (xk_k N) l ty_inner 0 [some (.ref 18), some (.int a1), some (.int (0 : Int32)), none, none, none, none, none] [] (n, u, σ, xr_0) (xe_w n u (fy_inner_0 a1 σ))
  unfold fy_inner_0
  refine xw_aload0 dy_inner_0 ?_
  refine xw_aload0 dy_inner_1 ?_
  refine xw_getR dy_inner_2 fl_y_13 (xl_n hn (by decide)) rfl r_18_5 ?_
  refine xw_bipush dy_inner_5 kb_23 ?_
  refine xw_iald dy_inner_7 (xl_n hn (by decide)) rfl vc_23_26 cn_23 ?_
  refine xw_iconst dy_inner_8 ki_4 ?_
  refine xw_iload1 dy_inner_9 ?_
  refine xw_imul dy_inner_10 ?_
  refine xw_iadd dy_inner_11 ?_
  refine xw_iconst dy_inner_12 ki_2 ?_
  refine xw_iadd dy_inner_13 ?_
  refine xw_iconst dy_inner_14 ki_1 ?_
  refine xw_cPi dy_inner_15 (lk_y_inner_15 (xl_n hn (by decide)) rfl) ok_y_readWord (my_readWord hl hn hJ) ⟨Nat.le_of_ble_eq_true rfl, Nat.le_of_ble_eq_true rfl⟩ ?_
  refine xw_lpi (fun r1 e_r1 => ?_)
  have hJ_r1 : yx_J r1.2 := by rw [e_r1]; exact (jy_readWord hJ)
  refine xw_istore3 dy_inner_18 (Nat.le_of_ble_eq_true rfl) rfl ?_
  refine xw_aload0 dy_inner_19 ?_
  refine xw_cVi dy_inner_20 (lk_y_inner_20 (xl_n hn (by decide)) rfl) ok_y_isRaised (my_isRaised hl hn) ⟨Nat.le_of_ble_eq_true rfl, Nat.le_of_ble_eq_true rfl⟩ ?_
  refine xw_if_eq' dy_inner_23 rfl (fun h2 => ?_) (fun h2 => ?_)
  · refine xw_aload0 dy_inner_30 ?_
    refine xw_aload0 dy_inner_31 ?_
    refine xw_getR dy_inner_32 fl_y_13 (xl_n hn (by decide)) rfl r_18_5 ?_
    refine xw_bipush dy_inner_35 kb_23 ?_
    refine xw_iald dy_inner_37 (xl_n hn (by decide)) rfl vc_23_26 cn_23 ?_
    refine xw_iconst dy_inner_38 ki_4 ?_
    refine xw_iload1 dy_inner_39 ?_
    refine xw_imul dy_inner_40 ?_
    refine xw_iadd dy_inner_41 ?_
    refine xw_iconst dy_inner_42 ki_4 ?_
    refine xw_iadd dy_inner_43 ?_
    refine xw_iconst dy_inner_44 ki_1 ?_
    refine xw_cPi dy_inner_45 (lk_y_inner_45 (xl_n hn (by decide)) rfl) ok_y_readWord (my_readWord hl hn hJ_r1) ⟨Nat.le_of_ble_eq_true rfl, Nat.le_of_ble_eq_true rfl⟩ ?_
    refine xw_lpi (fun r3 e_r3 => ?_)
    have hJ_r3 : yx_J r3.2 := by rw [e_r3]; exact (jy_readWord hJ_r1)
    refine xw_istore4 dy_inner_48 (Nat.le_of_ble_eq_true rfl) rfl ?_
    refine xw_aload0 dy_inner_50 ?_
    refine xw_cVi dy_inner_51 (lk_y_inner_51 (xl_n hn (by decide)) rfl) ok_y_isRaised (my_isRaised hl hn) ⟨Nat.le_of_ble_eq_true rfl, Nat.le_of_ble_eq_true rfl⟩ ?_
    refine xw_if_eq' dy_inner_54 rfl (fun h4 => ?_) (fun h4 => ?_)
    · refine xw_iload4 dy_inner_58 ?_
      refine xw_cVi dy_inner_60 (lk_y_inner_60) ok_y_isNull (my_isNull hl hn) ⟨Nat.le_of_ble_eq_true rfl, Nat.le_of_ble_eq_true rfl⟩ ?_
      refine xw_if_eq_mw (J := 83) (a := (fy_lookUp r3.1 (1 : Int32) r3.2)) (b := (fy_raise (10 : Int32) (0 : Int32) r3.2)) dy_inner_63 rfl (fun _ E' k' => ?_) (fun _ E' k' => ?_) ?_
      · refine xw_aload0 dy_inner_76 ?_
        refine xw_iload4 dy_inner_77 ?_
        refine xw_iconst dy_inner_79 ki_1 ?_
        refine xw_cW dy_inner_80 (lk_y_inner_80 (xl_n hn (by decide)) rfl) ok_y_lookUp (my_lookUp hl hn vc_1_2 hJ_r3) ⟨Nat.le_of_ble_eq_true rfl, Nat.le_of_ble_eq_true rfl⟩ ?_
        exact k'
      · refine xw_aload0 dy_inner_66 ?_
        refine xw_bipush dy_inner_67 kb_10 ?_
        refine xw_iconst dy_inner_69 ki_0 ?_
        refine xw_cW dy_inner_70 (lk_y_inner_70 (xl_n hn (by decide)) rfl) ok_y_raise (my_raise hl hn) ⟨Nat.le_of_ble_eq_true rfl, Nat.le_of_ble_eq_true rfl⟩ ?_
        refine xw_goto dy_inner_73 rfl ?_
        exact k'
      refine xw_lw (fun s5 e_s5 => ?_)
      have hJ_s5 : yx_J s5 := by rw [e_s5]; exact (xj_i (fun _ => (jy_lookUp vc_1_2 hJ_r3)) (fun _ => (jy_raise hJ_r3)))
      refine xw_aload0 dy_inner_83 ?_
      refine xw_cVi dy_inner_84 (lk_y_inner_84 (xl_n hn (by decide)) rfl) ok_y_isRaised (my_isRaised hl hn) ⟨Nat.le_of_ble_eq_true rfl, Nat.le_of_ble_eq_true rfl⟩ ?_
      refine xw_if_eq' dy_inner_87 rfl (fun h6 => ?_) (fun h6 => ?_)
      · refine xw_aload0 dy_inner_91 ?_
        refine xw_getR dy_inner_92 fl_y_29 (xl_n hn (by decide)) rfl r_18_14 ?_
        refine xw_iconst dy_inner_95 ki_1 ?_
        refine xw_iald dy_inner_96 (xl_n hn (by decide)) rfl vc_1_2 cn_1 ?_
        refine xw_iconst dy_inner_97 ki_4 ?_
        refine xw_icmp_ne_mw (J := 153) (a := (if (s5 25 1) = a1 then (if (r3.1 &&& (3 : Int32)) = a1 then (if (s5 26 1) = 0 then (fy_raise (12 : Int32) (fy_codeOf r3.1 s5) s5) else s5) else (fy_raise (10 : Int32) (fy_codeOf r3.1 s5) s5)) else (fy_raise (10 : Int32) (fy_codeOf r3.1 s5) s5))) (b := (fy_raise (10 : Int32) (fy_codeOf r3.1 s5) s5)) dy_inner_98 rfl (fun _ E' k' => ?_) (fun _ E' k' => ?_) ?_
        · refine xw_aload0 dy_inner_119 ?_
          refine xw_bipush dy_inner_120 kb_10 ?_
          refine xw_iload4 dy_inner_122 ?_
          refine xw_cVi dy_inner_124 (lk_y_inner_124) ok_y_codeOf (my_codeOf hl hn) ⟨Nat.le_of_ble_eq_true rfl, Nat.le_of_ble_eq_true rfl⟩ ?_
          refine xw_cW dy_inner_127 (lk_y_inner_127 (xl_n hn (by decide)) rfl) ok_y_raise (my_raise hl hn) ⟨Nat.le_of_ble_eq_true rfl, Nat.le_of_ble_eq_true rfl⟩ ?_
          refine xw_goto dy_inner_130 rfl ?_
          exact k'
        · refine xw_aload0 dy_inner_101 ?_
          refine xw_getR dy_inner_102 fl_y_32 (xl_n hn (by decide)) rfl r_18_15 ?_
          refine xw_iconst dy_inner_105 ki_1 ?_
          refine xw_iald dy_inner_106 (xl_n hn (by decide)) rfl vc_1_2 cn_1 ?_
          refine xw_iload1 dy_inner_107 ?_
          refine xw_icmp_ne_mw (J := 153) (a := (if (r3.1 &&& (3 : Int32)) = a1 then (if (s5 26 1) = 0 then (fy_raise (12 : Int32) (fy_codeOf r3.1 s5) s5) else s5) else (fy_raise (10 : Int32) (fy_codeOf r3.1 s5) s5))) (b := (fy_raise (10 : Int32) (fy_codeOf r3.1 s5) s5)) dy_inner_108 rfl (fun _ E' k' => ?_) (fun _ E' k' => ?_) ?_
          · refine xw_aload0 dy_inner_119 ?_
            refine xw_bipush dy_inner_120 kb_10 ?_
            refine xw_iload4 dy_inner_122 ?_
            refine xw_cVi dy_inner_124 (lk_y_inner_124) ok_y_codeOf (my_codeOf hl hn) ⟨Nat.le_of_ble_eq_true rfl, Nat.le_of_ble_eq_true rfl⟩ ?_
            refine xw_cW dy_inner_127 (lk_y_inner_127 (xl_n hn (by decide)) rfl) ok_y_raise (my_raise hl hn) ⟨Nat.le_of_ble_eq_true rfl, Nat.le_of_ble_eq_true rfl⟩ ?_
            refine xw_goto dy_inner_130 rfl ?_
            exact k'
          · refine xw_iload4 dy_inner_111 ?_
            refine xw_iconst dy_inner_113 ki_3 ?_
            refine xw_iand dy_inner_114 ?_
            refine xw_iload1 dy_inner_115 ?_
            refine xw_icmp_eq_mw (J := 153) (a := (if (s5 26 1) = 0 then (fy_raise (12 : Int32) (fy_codeOf r3.1 s5) s5) else s5)) (b := (fy_raise (10 : Int32) (fy_codeOf r3.1 s5) s5)) dy_inner_116 rfl (fun _ E' k' => ?_) (fun _ E' k' => ?_) ?_
            · refine xw_aload0 dy_inner_133 ?_
              refine xw_getR dy_inner_134 fl_y_35 (xl_n hn (by decide)) rfl r_18_16 ?_
              refine xw_iconst dy_inner_137 ki_1 ?_
              refine xw_zald dy_inner_138 (xl_n hn (by decide)) rfl vc_1_2 cn_1 ?_
              refine xw_if_ne_mw (J := 153) (a := (fy_raise (12 : Int32) (fy_codeOf r3.1 s5) s5)) (b := s5) dy_inner_139 rfl (fun _ E' k' => ?_) (fun _ E' k' => ?_) ?_
              · exact k'
              · refine xw_aload0 dy_inner_142 ?_
                refine xw_bipush dy_inner_143 kb_12 ?_
                refine xw_iload4 dy_inner_145 ?_
                refine xw_cVi dy_inner_147 (lk_y_inner_147) ok_y_codeOf (my_codeOf hl hn) ⟨Nat.le_of_ble_eq_true rfl, Nat.le_of_ble_eq_true rfl⟩ ?_
                refine xw_cW dy_inner_150 (lk_y_inner_150 (xl_n hn (by decide)) rfl) ok_y_raise (my_raise hl hn) ⟨Nat.le_of_ble_eq_true rfl, Nat.le_of_ble_eq_true rfl⟩ ?_
                exact k'
              exact k'
            · refine xw_aload0 dy_inner_119 ?_
              refine xw_bipush dy_inner_120 kb_10 ?_
              refine xw_iload4 dy_inner_122 ?_
              refine xw_cVi dy_inner_124 (lk_y_inner_124) ok_y_codeOf (my_codeOf hl hn) ⟨Nat.le_of_ble_eq_true rfl, Nat.le_of_ble_eq_true rfl⟩ ?_
              refine xw_cW dy_inner_127 (lk_y_inner_127 (xl_n hn (by decide)) rfl) ok_y_raise (my_raise hl hn) ⟨Nat.le_of_ble_eq_true rfl, Nat.le_of_ble_eq_true rfl⟩ ?_
              refine xw_goto dy_inner_130 rfl ?_
              exact k'
            exact k'
          exact k'
        refine xw_lw (fun s7 e_s7 => ?_)
        have hJ_s7 : yx_J s7 := by rw [e_s7]; exact (xj_i (fun _ => (xj_i (fun _ => (xj_i (fun _ => (xj_i (fun _ => (jy_raise hJ_s5)) (fun _ => hJ_s5))) (fun _ => (jy_raise hJ_s5)))) (fun _ => (jy_raise hJ_s5)))) (fun _ => (jy_raise hJ_s5)))
        refine xw_iconst dy_inner_153 ki_0 ?_
        refine xw_istore5 dy_inner_154 (Nat.le_of_ble_eq_true rfl) rfl ?_
        refine xw_iload5 dy_inner_156 ?_
        refine xw_iload2 dy_inner_158 ?_
        refine xw_icmp_ge_t dy_inner_159 rfl (by decide) ?_
        refine xw_aload0 dy_inner_202 ?_
        refine xw_cVi dy_inner_203 (lk_y_inner_203 (xl_n hn (by decide)) rfl) ok_y_isRaised (my_isRaised hl hn) ⟨Nat.le_of_ble_eq_true rfl, Nat.le_of_ble_eq_true rfl⟩ ?_
        refine xw_if_eq' dy_inner_206 rfl (fun h8 => ?_) (fun h8 => ?_)
        · refine xw_aload0 dy_inner_210 ?_
          refine xw_getR dy_inner_211 fl_y_13 (xl_n hn (by decide)) rfl r_18_5 ?_
          refine xw_iconst dy_inner_214 ki_1 ?_
          refine xw_iald dy_inner_215 (xl_n hn (by decide)) rfl vc_1_26 cn_1 ?_
          refine xw_li (fun v9 e_v9 => ?_)
          refine xw_istore5 dy_inner_216 (Nat.le_of_ble_eq_true rfl) rfl ?_
          refine xw_aload0 dy_inner_218 ?_
          refine xw_getR dy_inner_219 fl_y_13 (xl_n hn (by decide)) rfl r_18_5 ?_
          refine xw_bipush dy_inner_222 kb_18 ?_
          refine xw_iald dy_inner_224 (xl_n hn (by decide)) rfl vc_18_26 cn_18 ?_
          refine xw_li (fun v10 e_v10 => ?_)
          refine xw_istore6 dy_inner_225 (Nat.le_of_ble_eq_true rfl) rfl ?_
          refine xw_aload0 dy_inner_227 ?_
          refine xw_getR dy_inner_228 fl_y_13 (xl_n hn (by decide)) rfl r_18_5 ?_
          refine xw_bipush dy_inner_231 kb_21 ?_
          refine xw_iload1 dy_inner_233 ?_
          refine xw_iast dy_inner_234 (by decide) (xl_n hn (by decide)) rfl vc_21_26 cn_21 ?_
          refine xw_lw (fun s11 e_s11 => ?_)
          have hJ_s11 : yx_J s11 := by rw [e_s11]; exact (yx_u hJ_s7 (by decide))
          refine xw_aload0 dy_inner_235 ?_
          refine xw_iconst dy_inner_236 ki_1 ?_
          refine xw_iload4 dy_inner_237 ?_
          refine xw_iconst dy_inner_239 ki_1 ?_
          refine xw_cW dy_inner_240 (lk_y_inner_240 (xl_n hn (by decide)) rfl) ok_y_setSegment (my_setSegment hl hn vc_1_3 vc_1_2) ⟨Nat.le_of_ble_eq_true rfl, Nat.le_of_ble_eq_true rfl⟩ ?_
          refine xw_lw (fun s12 e_s12 => ?_)
          have hJ_s12 : yx_J s12 := by rw [e_s12]; exact (jy_setSegment vc_1_3 vc_1_2 hJ_s11)
          refine xw_aload0 dy_inner_243 ?_
          refine xw_getR dy_inner_244 fl_y_13 (xl_n hn (by decide)) rfl r_18_5 ?_
          refine xw_bipush dy_inner_247 kb_18 ?_
          refine xw_iload3 dy_inner_249 ?_
          refine xw_iast dy_inner_250 (by decide) (xl_n hn (by decide)) rfl vc_18_26 cn_18 ?_
          refine xw_lw (fun s13 e_s13 => ?_)
          have hJ_s13 : yx_J s13 := by rw [e_s13]; exact (yx_u hJ_s12 (by decide))
          refine xw_aload0 dy_inner_251 ?_
          refine xw_iload5 dy_inner_252 ?_
          refine xw_cW dy_inner_254 (lk_y_inner_254 (xl_n hn (by decide)) rfl) ok_y_pushWord (my_pushWord hl hn hJ_s13) ⟨Nat.le_of_ble_eq_true rfl, Nat.le_of_ble_eq_true rfl⟩ ?_
          refine xw_lw (fun s14 e_s14 => ?_)
          have hJ_s14 : yx_J s14 := by rw [e_s14]; exact (jy_pushWord hJ_s13)
          refine xw_aload0 dy_inner_257 ?_
          refine xw_iload6 dy_inner_258 ?_
          refine xw_cW dy_inner_260 (lk_y_inner_260 (xl_n hn (by decide)) rfl) ok_y_pushWord (my_pushWord hl hn hJ_s14) ⟨Nat.le_of_ble_eq_true rfl, Nat.le_of_ble_eq_true rfl⟩ ?_
          refine xw_lw (fun s15 e_s15 => ?_)
          have hJ_s15 : yx_J s15 := by rw [e_s15]; exact (jy_pushWord hJ_s14)
          refine xw_iload2 dy_inner_263 ?_
          refine xw_iconst dy_inner_264 ki_1 ?_
          refine xw_isubc dy_inner_265 sb_0_1 ?_
          refine xw_istore7 dy_inner_266 (Nat.le_of_ble_eq_true rfl) rfl ?_
          refine xw_iload7 dy_inner_268 ?_
          refine xw_if_lt_t dy_inner_270 rfl (by decide) ?_
          exact xw_vret dy_inner_290 rfl
        · exact xw_vret dy_inner_209 rfl
      · exact xw_vret dy_inner_90 rfl
    · exact xw_vret dy_inner_57 rfl
  · refine xw_iconst dy_inner_26 ki_0 ?_
    refine xw_goto dy_inner_27 rfl ?_
    refine xw_istore4 dy_inner_48 (Nat.le_of_ble_eq_true rfl) rfl ?_
    refine xw_aload0 dy_inner_50 ?_
    refine xw_cVi dy_inner_51 (lk_y_inner_51 (xl_n hn (by decide)) rfl) ok_y_isRaised (my_isRaised hl hn) ⟨Nat.le_of_ble_eq_true rfl, Nat.le_of_ble_eq_true rfl⟩ ?_
    refine xw_if_eq_f dy_inner_54 rfl h2 ?_
    exact xw_vret dy_inner_57 rfl
theorem jy_inner_0 {a1 : Int32} {σ : xs_S} (hJ : yx_J σ) : yx_J (fy_inner_0 a1 σ) := by
  unfold fy_inner_0
  refine xj_wl (fun r1 e_r1 => ?_)
  have hJ_r1 : yx_J r1.2 := by rw [e_r1]; exact (jy_readWord hJ)
  refine xj_wf (fun h2 => ?_) (fun h2 => ?_)
  · refine xj_wl (fun r3 e_r3 => ?_)
    have hJ_r3 : yx_J r3.2 := by rw [e_r3]; exact (jy_readWord hJ_r1)
    refine xj_wf (fun h4 => ?_) (fun h4 => ?_)
    · refine xj_wl (fun s5 e_s5 => ?_)
      have hJ_s5 : yx_J s5 := by rw [e_s5]; exact (xj_i (fun _ => (jy_lookUp vc_1_2 hJ_r3)) (fun _ => (jy_raise hJ_r3)))
      refine xj_wf (fun h6 => ?_) (fun h6 => ?_)
      · refine xj_wl (fun s7 e_s7 => ?_)
        have hJ_s7 : yx_J s7 := by rw [e_s7]; exact (xj_i (fun _ => (xj_i (fun _ => (xj_i (fun _ => (xj_i (fun _ => (jy_raise hJ_s5)) (fun _ => hJ_s5))) (fun _ => (jy_raise hJ_s5)))) (fun _ => (jy_raise hJ_s5)))) (fun _ => (jy_raise hJ_s5)))
        refine xj_wf (fun h8 => ?_) (fun h8 => ?_)
        · refine xj_wl (fun v9 e_v9 => ?_)
          refine xj_wl (fun v10 e_v10 => ?_)
          refine xj_wl (fun s11 e_s11 => ?_)
          have hJ_s11 : yx_J s11 := by rw [e_s11]; exact (yx_u hJ_s7 (by decide))
          refine xj_wl (fun s12 e_s12 => ?_)
          have hJ_s12 : yx_J s12 := by rw [e_s12]; exact (jy_setSegment vc_1_3 vc_1_2 hJ_s11)
          refine xj_wl (fun s13 e_s13 => ?_)
          have hJ_s13 : yx_J s13 := by rw [e_s13]; exact (yx_u hJ_s12 (by decide))
          refine xj_wl (fun s14 e_s14 => ?_)
          have hJ_s14 : yx_J s14 := by rw [e_s14]; exact (jy_pushWord hJ_s13)
          refine xj_wl (fun s15 e_s15 => ?_)
          have hJ_s15 : yx_J s15 := by rw [e_s15]; exact (jy_pushWord hJ_s14)
          exact hJ_s15
        · exact hJ_s7
      · exact hJ_s5
    · exact hJ_r3
  · exact hJ_r1
def fy_inner_1 (a1 : Int32) (σ : xs_S) : xs_S := xl_l (fy_readWord (((σ 20 23) + ((4 : Int32) * a1)) + (2 : Int32)) (1 : Int32) σ) (fun r1 => (if (fy_isRaised r1.2) = 0 then xl_l (fy_readWord (((r1.2 20 23) + ((4 : Int32) * a1)) + (4 : Int32)) (1 : Int32) r1.2) (fun r3 => (if (fy_isRaised r3.2) = 0 then xl_l ((if (fy_isNull r3.1 r3.2) = 0 then (fy_lookUp r3.1 (1 : Int32) r3.2) else (fy_raise (10 : Int32) (0 : Int32) r3.2))) (fun s5 => (if (fy_isRaised s5) = 0 then xl_l ((if (s5 24 1) = (4 : Int32) then (if (s5 25 1) = a1 then (if (r3.1 &&& (3 : Int32)) = a1 then (if (s5 26 1) = 0 then (fy_raise (12 : Int32) (fy_codeOf r3.1 s5) s5) else s5) else (fy_raise (10 : Int32) (fy_codeOf r3.1 s5) s5)) else (fy_raise (10 : Int32) (fy_codeOf r3.1 s5) s5)) else (fy_raise (10 : Int32) (fy_codeOf r3.1 s5) s5))) (fun s7 => (if (fy_isRaised s7) = 0 then xl_l (fy_segmentWord (1 : Int32) (((s7 20 18) + ((2 : Int32) * (0 : Int32))) &&& (65535 : Int32)) s7) (fun r9 => xl_l ((xu_u r9.2 28 0 r9.1)) (fun s10 => (if (fy_isRaised s10) = 0 then xl_l ((s10 20 1)) (fun v12 => xl_l ((s10 20 18)) (fun v13 => xl_l ((xu_u s10 20 21 a1)) (fun s14 => xl_l ((fy_setSegment (1 : Int32) r3.1 (1 : Int32) s14)) (fun s15 => xl_l ((xu_u s15 20 18 r1.1)) (fun s16 => xl_l ((fy_pushWord v12 s16)) (fun s17 => xl_l ((fy_pushWord v13 s17)) (fun s18 => xl_l ((fy_pushWord (s18 28 0) s18)) (fun s19 => s19)))))))) else s10))) else s7)) else s5)) else r3.2)) else r1.2))
set_option maxRecDepth 100000 in
set_option maxHeartbeats 4000000 in
theorem my_inner_1 {l : Launch} {N n u : Nat} {a1 : Int32} {σ : xs_S} (hl : l.stackTraces = false) (hn : 29 ≤ n) (hJ : yx_J σ) : xm_m (xk_k N) l ty_inner [.ref 18, .int a1, .int (1 : Int32)] (n, u, σ, xr_0) (xe_w n u (fy_inner_1 a1 σ)) := by
  refine xm_of hl ok_y_inner (Nat.le_of_ble_eq_true rfl) ?_
  show xw_w (xk_k N) l ty_inner 0 [some (.ref 18), some (.int a1), some (.int (1 : Int32)), none, none, none, none, none] [] (n, u, σ, xr_0) (xe_w n u (fy_inner_1 a1 σ))
  unfold fy_inner_1
  refine xw_aload0 dy_inner_0 ?_
  refine xw_aload0 dy_inner_1 ?_
  refine xw_getR dy_inner_2 fl_y_13 (xl_n hn (by decide)) rfl r_18_5 ?_
  refine xw_bipush dy_inner_5 kb_23 ?_
  refine xw_iald dy_inner_7 (xl_n hn (by decide)) rfl vc_23_26 cn_23 ?_
  refine xw_iconst dy_inner_8 ki_4 ?_
  refine xw_iload1 dy_inner_9 ?_
  refine xw_imul dy_inner_10 ?_
  refine xw_iadd dy_inner_11 ?_
  refine xw_iconst dy_inner_12 ki_2 ?_
  refine xw_iadd dy_inner_13 ?_
  refine xw_iconst dy_inner_14 ki_1 ?_
  refine xw_cPi dy_inner_15 (lk_y_inner_15 (xl_n hn (by decide)) rfl) ok_y_readWord (my_readWord hl hn hJ) ⟨Nat.le_of_ble_eq_true rfl, Nat.le_of_ble_eq_true rfl⟩ ?_
  refine xw_lpi (fun r1 e_r1 => ?_)
  have hJ_r1 : yx_J r1.2 := by rw [e_r1]; exact (jy_readWord hJ)
  refine xw_istore3 dy_inner_18 (Nat.le_of_ble_eq_true rfl) rfl ?_
  refine xw_aload0 dy_inner_19 ?_
  refine xw_cVi dy_inner_20 (lk_y_inner_20 (xl_n hn (by decide)) rfl) ok_y_isRaised (my_isRaised hl hn) ⟨Nat.le_of_ble_eq_true rfl, Nat.le_of_ble_eq_true rfl⟩ ?_
  refine xw_if_eq' dy_inner_23 rfl (fun h2 => ?_) (fun h2 => ?_)
  · refine xw_aload0 dy_inner_30 ?_
    refine xw_aload0 dy_inner_31 ?_
    refine xw_getR dy_inner_32 fl_y_13 (xl_n hn (by decide)) rfl r_18_5 ?_
    refine xw_bipush dy_inner_35 kb_23 ?_
    refine xw_iald dy_inner_37 (xl_n hn (by decide)) rfl vc_23_26 cn_23 ?_
    refine xw_iconst dy_inner_38 ki_4 ?_
    refine xw_iload1 dy_inner_39 ?_
    refine xw_imul dy_inner_40 ?_
    refine xw_iadd dy_inner_41 ?_
    refine xw_iconst dy_inner_42 ki_4 ?_
    refine xw_iadd dy_inner_43 ?_
    refine xw_iconst dy_inner_44 ki_1 ?_
    refine xw_cPi dy_inner_45 (lk_y_inner_45 (xl_n hn (by decide)) rfl) ok_y_readWord (my_readWord hl hn hJ_r1) ⟨Nat.le_of_ble_eq_true rfl, Nat.le_of_ble_eq_true rfl⟩ ?_
    refine xw_lpi (fun r3 e_r3 => ?_)
    have hJ_r3 : yx_J r3.2 := by rw [e_r3]; exact (jy_readWord hJ_r1)
    refine xw_istore4 dy_inner_48 (Nat.le_of_ble_eq_true rfl) rfl ?_
    refine xw_aload0 dy_inner_50 ?_
    refine xw_cVi dy_inner_51 (lk_y_inner_51 (xl_n hn (by decide)) rfl) ok_y_isRaised (my_isRaised hl hn) ⟨Nat.le_of_ble_eq_true rfl, Nat.le_of_ble_eq_true rfl⟩ ?_
    refine xw_if_eq' dy_inner_54 rfl (fun h4 => ?_) (fun h4 => ?_)
    · refine xw_iload4 dy_inner_58 ?_
      refine xw_cVi dy_inner_60 (lk_y_inner_60) ok_y_isNull (my_isNull hl hn) ⟨Nat.le_of_ble_eq_true rfl, Nat.le_of_ble_eq_true rfl⟩ ?_
      refine xw_if_eq_mw (J := 83) (a := (fy_lookUp r3.1 (1 : Int32) r3.2)) (b := (fy_raise (10 : Int32) (0 : Int32) r3.2)) dy_inner_63 rfl (fun _ E' k' => ?_) (fun _ E' k' => ?_) ?_
      · refine xw_aload0 dy_inner_76 ?_
        refine xw_iload4 dy_inner_77 ?_
        refine xw_iconst dy_inner_79 ki_1 ?_
        refine xw_cW dy_inner_80 (lk_y_inner_80 (xl_n hn (by decide)) rfl) ok_y_lookUp (my_lookUp hl hn vc_1_2 hJ_r3) ⟨Nat.le_of_ble_eq_true rfl, Nat.le_of_ble_eq_true rfl⟩ ?_
        exact k'
      · refine xw_aload0 dy_inner_66 ?_
        refine xw_bipush dy_inner_67 kb_10 ?_
        refine xw_iconst dy_inner_69 ki_0 ?_
        refine xw_cW dy_inner_70 (lk_y_inner_70 (xl_n hn (by decide)) rfl) ok_y_raise (my_raise hl hn) ⟨Nat.le_of_ble_eq_true rfl, Nat.le_of_ble_eq_true rfl⟩ ?_
        refine xw_goto dy_inner_73 rfl ?_
        exact k'
      refine xw_lw (fun s5 e_s5 => ?_)
      have hJ_s5 : yx_J s5 := by rw [e_s5]; exact (xj_i (fun _ => (jy_lookUp vc_1_2 hJ_r3)) (fun _ => (jy_raise hJ_r3)))
      refine xw_aload0 dy_inner_83 ?_
      refine xw_cVi dy_inner_84 (lk_y_inner_84 (xl_n hn (by decide)) rfl) ok_y_isRaised (my_isRaised hl hn) ⟨Nat.le_of_ble_eq_true rfl, Nat.le_of_ble_eq_true rfl⟩ ?_
      refine xw_if_eq' dy_inner_87 rfl (fun h6 => ?_) (fun h6 => ?_)
      · refine xw_aload0 dy_inner_91 ?_
        refine xw_getR dy_inner_92 fl_y_29 (xl_n hn (by decide)) rfl r_18_14 ?_
        refine xw_iconst dy_inner_95 ki_1 ?_
        refine xw_iald dy_inner_96 (xl_n hn (by decide)) rfl vc_1_2 cn_1 ?_
        refine xw_iconst dy_inner_97 ki_4 ?_
        refine xw_icmp_ne_mw (J := 153) (a := (if (s5 25 1) = a1 then (if (r3.1 &&& (3 : Int32)) = a1 then (if (s5 26 1) = 0 then (fy_raise (12 : Int32) (fy_codeOf r3.1 s5) s5) else s5) else (fy_raise (10 : Int32) (fy_codeOf r3.1 s5) s5)) else (fy_raise (10 : Int32) (fy_codeOf r3.1 s5) s5))) (b := (fy_raise (10 : Int32) (fy_codeOf r3.1 s5) s5)) dy_inner_98 rfl (fun _ E' k' => ?_) (fun _ E' k' => ?_) ?_
        · refine xw_aload0 dy_inner_119 ?_
          refine xw_bipush dy_inner_120 kb_10 ?_
          refine xw_iload4 dy_inner_122 ?_
          refine xw_cVi dy_inner_124 (lk_y_inner_124) ok_y_codeOf (my_codeOf hl hn) ⟨Nat.le_of_ble_eq_true rfl, Nat.le_of_ble_eq_true rfl⟩ ?_
          refine xw_cW dy_inner_127 (lk_y_inner_127 (xl_n hn (by decide)) rfl) ok_y_raise (my_raise hl hn) ⟨Nat.le_of_ble_eq_true rfl, Nat.le_of_ble_eq_true rfl⟩ ?_
          refine xw_goto dy_inner_130 rfl ?_
          exact k'
        · refine xw_aload0 dy_inner_101 ?_
          refine xw_getR dy_inner_102 fl_y_32 (xl_n hn (by decide)) rfl r_18_15 ?_
          refine xw_iconst dy_inner_105 ki_1 ?_
          refine xw_iald dy_inner_106 (xl_n hn (by decide)) rfl vc_1_2 cn_1 ?_
          refine xw_iload1 dy_inner_107 ?_
          refine xw_icmp_ne_mw (J := 153) (a := (if (r3.1 &&& (3 : Int32)) = a1 then (if (s5 26 1) = 0 then (fy_raise (12 : Int32) (fy_codeOf r3.1 s5) s5) else s5) else (fy_raise (10 : Int32) (fy_codeOf r3.1 s5) s5))) (b := (fy_raise (10 : Int32) (fy_codeOf r3.1 s5) s5)) dy_inner_108 rfl (fun _ E' k' => ?_) (fun _ E' k' => ?_) ?_
          · refine xw_aload0 dy_inner_119 ?_
            refine xw_bipush dy_inner_120 kb_10 ?_
            refine xw_iload4 dy_inner_122 ?_
            refine xw_cVi dy_inner_124 (lk_y_inner_124) ok_y_codeOf (my_codeOf hl hn) ⟨Nat.le_of_ble_eq_true rfl, Nat.le_of_ble_eq_true rfl⟩ ?_
            refine xw_cW dy_inner_127 (lk_y_inner_127 (xl_n hn (by decide)) rfl) ok_y_raise (my_raise hl hn) ⟨Nat.le_of_ble_eq_true rfl, Nat.le_of_ble_eq_true rfl⟩ ?_
            refine xw_goto dy_inner_130 rfl ?_
            exact k'
          · refine xw_iload4 dy_inner_111 ?_
            refine xw_iconst dy_inner_113 ki_3 ?_
            refine xw_iand dy_inner_114 ?_
            refine xw_iload1 dy_inner_115 ?_
            refine xw_icmp_eq_mw (J := 153) (a := (if (s5 26 1) = 0 then (fy_raise (12 : Int32) (fy_codeOf r3.1 s5) s5) else s5)) (b := (fy_raise (10 : Int32) (fy_codeOf r3.1 s5) s5)) dy_inner_116 rfl (fun _ E' k' => ?_) (fun _ E' k' => ?_) ?_
            · refine xw_aload0 dy_inner_133 ?_
              refine xw_getR dy_inner_134 fl_y_35 (xl_n hn (by decide)) rfl r_18_16 ?_
              refine xw_iconst dy_inner_137 ki_1 ?_
              refine xw_zald dy_inner_138 (xl_n hn (by decide)) rfl vc_1_2 cn_1 ?_
              refine xw_if_ne_mw (J := 153) (a := (fy_raise (12 : Int32) (fy_codeOf r3.1 s5) s5)) (b := s5) dy_inner_139 rfl (fun _ E' k' => ?_) (fun _ E' k' => ?_) ?_
              · exact k'
              · refine xw_aload0 dy_inner_142 ?_
                refine xw_bipush dy_inner_143 kb_12 ?_
                refine xw_iload4 dy_inner_145 ?_
                refine xw_cVi dy_inner_147 (lk_y_inner_147) ok_y_codeOf (my_codeOf hl hn) ⟨Nat.le_of_ble_eq_true rfl, Nat.le_of_ble_eq_true rfl⟩ ?_
                refine xw_cW dy_inner_150 (lk_y_inner_150 (xl_n hn (by decide)) rfl) ok_y_raise (my_raise hl hn) ⟨Nat.le_of_ble_eq_true rfl, Nat.le_of_ble_eq_true rfl⟩ ?_
                exact k'
              exact k'
            · refine xw_aload0 dy_inner_119 ?_
              refine xw_bipush dy_inner_120 kb_10 ?_
              refine xw_iload4 dy_inner_122 ?_
              refine xw_cVi dy_inner_124 (lk_y_inner_124) ok_y_codeOf (my_codeOf hl hn) ⟨Nat.le_of_ble_eq_true rfl, Nat.le_of_ble_eq_true rfl⟩ ?_
              refine xw_cW dy_inner_127 (lk_y_inner_127 (xl_n hn (by decide)) rfl) ok_y_raise (my_raise hl hn) ⟨Nat.le_of_ble_eq_true rfl, Nat.le_of_ble_eq_true rfl⟩ ?_
              refine xw_goto dy_inner_130 rfl ?_
              exact k'
            exact k'
          exact k'
        refine xw_lw (fun s7 e_s7 => ?_)
        have hJ_s7 : yx_J s7 := by rw [e_s7]; exact (xj_i (fun _ => (xj_i (fun _ => (xj_i (fun _ => (xj_i (fun _ => (jy_raise hJ_s5)) (fun _ => hJ_s5))) (fun _ => (jy_raise hJ_s5)))) (fun _ => (jy_raise hJ_s5)))) (fun _ => (jy_raise hJ_s5)))
        refine xw_iconst dy_inner_153 ki_0 ?_
        refine xw_istore5 dy_inner_154 (Nat.le_of_ble_eq_true rfl) rfl ?_
        refine xw_iload5 dy_inner_156 ?_
        refine xw_iload2 dy_inner_158 ?_
        refine xw_icmp_ge_f dy_inner_159 rfl (by decide) ?_
        refine xw_aload0 dy_inner_162 ?_
        refine xw_cVi dy_inner_163 (lk_y_inner_163 (xl_n hn (by decide)) rfl) ok_y_isRaised (my_isRaised hl hn) ⟨Nat.le_of_ble_eq_true rfl, Nat.le_of_ble_eq_true rfl⟩ ?_
        refine xw_if_ne' dy_inner_166 rfl (fun h8 => ?_) (fun h8 => ?_)
        · refine xw_aload0 dy_inner_202 ?_
          refine xw_cVi dy_inner_203 (lk_y_inner_203 (xl_n hn (by decide)) rfl) ok_y_isRaised (my_isRaised hl hn) ⟨Nat.le_of_ble_eq_true rfl, Nat.le_of_ble_eq_true rfl⟩ ?_
          refine xw_if_eq_f dy_inner_206 rfl h8 ?_
          exact xw_vret dy_inner_209 rfl
        · refine xw_aload0 dy_inner_169 ?_
          refine xw_getR dy_inner_170 fl_y_42 (xl_n hn (by decide)) rfl r_18_18 ?_
          refine xw_iload5 dy_inner_173 ?_
          refine xw_aload0 dy_inner_175 ?_
          refine xw_iconst dy_inner_176 ki_1 ?_
          refine xw_aload0 dy_inner_177 ?_
          refine xw_getR dy_inner_178 fl_y_13 (xl_n hn (by decide)) rfl r_18_5 ?_
          refine xw_bipush dy_inner_181 kb_18 ?_
          refine xw_iald dy_inner_183 (xl_n hn (by decide)) rfl vc_18_26 cn_18 ?_
          refine xw_iconst dy_inner_184 ki_2 ?_
          refine xw_iload5 dy_inner_185 ?_
          refine xw_imul dy_inner_187 ?_
          refine xw_iadd dy_inner_188 ?_
          refine xw_ldc dy_inner_189 kc_y_97 ?_
          refine xw_iand dy_inner_191 ?_
          refine xw_cPi dy_inner_192 (lk_y_inner_192 (xl_n hn (by decide)) rfl) ok_y_segmentWord (my_segmentWord hl hn vc_1_3 hJ_s7) ⟨Nat.le_of_ble_eq_true rfl, Nat.le_of_ble_eq_true rfl⟩ ?_
          refine xw_lpi (fun r9 e_r9 => ?_)
          have hJ_r9 : yx_J r9.2 := by rw [e_r9]; exact (jy_segmentWord vc_1_3 hJ_s7)
          refine xw_iast dy_inner_195 (by decide) (xl_n hn (by decide)) rfl vc_0_8 cn_0 ?_
          refine xw_lw (fun s10 e_s10 => ?_)
          have hJ_s10 : yx_J s10 := by rw [e_s10]; exact (yx_u hJ_r9 (by decide))
          refine xw_iinc5 dy_inner_196 ic_0_1 (Nat.le_of_ble_eq_true rfl) rfl ?_
          refine xw_goto dy_inner_199 rfl ?_
          refine xw_iload5 dy_inner_156 ?_
          refine xw_iload2 dy_inner_158 ?_
          refine xw_icmp_ge_t dy_inner_159 rfl (by decide) ?_
          refine xw_aload0 dy_inner_202 ?_
          refine xw_cVi dy_inner_203 (lk_y_inner_203 (xl_n hn (by decide)) rfl) ok_y_isRaised (my_isRaised hl hn) ⟨Nat.le_of_ble_eq_true rfl, Nat.le_of_ble_eq_true rfl⟩ ?_
          refine xw_if_eq' dy_inner_206 rfl (fun h11 => ?_) (fun h11 => ?_)
          · refine xw_aload0 dy_inner_210 ?_
            refine xw_getR dy_inner_211 fl_y_13 (xl_n hn (by decide)) rfl r_18_5 ?_
            refine xw_iconst dy_inner_214 ki_1 ?_
            refine xw_iald dy_inner_215 (xl_n hn (by decide)) rfl vc_1_26 cn_1 ?_
            refine xw_li (fun v12 e_v12 => ?_)
            refine xw_istore5 dy_inner_216 (Nat.le_of_ble_eq_true rfl) rfl ?_
            refine xw_aload0 dy_inner_218 ?_
            refine xw_getR dy_inner_219 fl_y_13 (xl_n hn (by decide)) rfl r_18_5 ?_
            refine xw_bipush dy_inner_222 kb_18 ?_
            refine xw_iald dy_inner_224 (xl_n hn (by decide)) rfl vc_18_26 cn_18 ?_
            refine xw_li (fun v13 e_v13 => ?_)
            refine xw_istore6 dy_inner_225 (Nat.le_of_ble_eq_true rfl) rfl ?_
            refine xw_aload0 dy_inner_227 ?_
            refine xw_getR dy_inner_228 fl_y_13 (xl_n hn (by decide)) rfl r_18_5 ?_
            refine xw_bipush dy_inner_231 kb_21 ?_
            refine xw_iload1 dy_inner_233 ?_
            refine xw_iast dy_inner_234 (by decide) (xl_n hn (by decide)) rfl vc_21_26 cn_21 ?_
            refine xw_lw (fun s14 e_s14 => ?_)
            have hJ_s14 : yx_J s14 := by rw [e_s14]; exact (yx_u hJ_s10 (by decide))
            refine xw_aload0 dy_inner_235 ?_
            refine xw_iconst dy_inner_236 ki_1 ?_
            refine xw_iload4 dy_inner_237 ?_
            refine xw_iconst dy_inner_239 ki_1 ?_
            refine xw_cW dy_inner_240 (lk_y_inner_240 (xl_n hn (by decide)) rfl) ok_y_setSegment (my_setSegment hl hn vc_1_3 vc_1_2) ⟨Nat.le_of_ble_eq_true rfl, Nat.le_of_ble_eq_true rfl⟩ ?_
            refine xw_lw (fun s15 e_s15 => ?_)
            have hJ_s15 : yx_J s15 := by rw [e_s15]; exact (jy_setSegment vc_1_3 vc_1_2 hJ_s14)
            refine xw_aload0 dy_inner_243 ?_
            refine xw_getR dy_inner_244 fl_y_13 (xl_n hn (by decide)) rfl r_18_5 ?_
            refine xw_bipush dy_inner_247 kb_18 ?_
            refine xw_iload3 dy_inner_249 ?_
            refine xw_iast dy_inner_250 (by decide) (xl_n hn (by decide)) rfl vc_18_26 cn_18 ?_
            refine xw_lw (fun s16 e_s16 => ?_)
            have hJ_s16 : yx_J s16 := by rw [e_s16]; exact (yx_u hJ_s15 (by decide))
            refine xw_aload0 dy_inner_251 ?_
            refine xw_iload5 dy_inner_252 ?_
            refine xw_cW dy_inner_254 (lk_y_inner_254 (xl_n hn (by decide)) rfl) ok_y_pushWord (my_pushWord hl hn hJ_s16) ⟨Nat.le_of_ble_eq_true rfl, Nat.le_of_ble_eq_true rfl⟩ ?_
            refine xw_lw (fun s17 e_s17 => ?_)
            have hJ_s17 : yx_J s17 := by rw [e_s17]; exact (jy_pushWord hJ_s16)
            refine xw_aload0 dy_inner_257 ?_
            refine xw_iload6 dy_inner_258 ?_
            refine xw_cW dy_inner_260 (lk_y_inner_260 (xl_n hn (by decide)) rfl) ok_y_pushWord (my_pushWord hl hn hJ_s17) ⟨Nat.le_of_ble_eq_true rfl, Nat.le_of_ble_eq_true rfl⟩ ?_
            refine xw_lw (fun s18 e_s18 => ?_)
            have hJ_s18 : yx_J s18 := by rw [e_s18]; exact (jy_pushWord hJ_s17)
            refine xw_iload2 dy_inner_263 ?_
            refine xw_iconst dy_inner_264 ki_1 ?_
            refine xw_isubc dy_inner_265 sb_1_1 ?_
            refine xw_istore7 dy_inner_266 (Nat.le_of_ble_eq_true rfl) rfl ?_
            refine xw_iload7 dy_inner_268 ?_
            refine xw_if_lt_f dy_inner_270 rfl (by decide) ?_
            refine xw_aload0 dy_inner_273 ?_
            refine xw_aload0 dy_inner_274 ?_
            refine xw_getR dy_inner_275 fl_y_42 (xl_n hn (by decide)) rfl r_18_18 ?_
            refine xw_iload7 dy_inner_278 ?_
            refine xw_iald dy_inner_280 (xl_n hn (by decide)) rfl vc_0_8 cn_0 ?_
            refine xw_cW dy_inner_281 (lk_y_inner_281 (xl_n hn (by decide)) rfl) ok_y_pushWord (my_pushWord hl hn hJ_s18) ⟨Nat.le_of_ble_eq_true rfl, Nat.le_of_ble_eq_true rfl⟩ ?_
            refine xw_lw (fun s19 e_s19 => ?_)
            have hJ_s19 : yx_J s19 := by rw [e_s19]; exact (jy_pushWord hJ_s18)
            refine xw_iinc7 dy_inner_284 ic_0_m1 (Nat.le_of_ble_eq_true rfl) rfl ?_
            refine xw_goto dy_inner_287 rfl ?_
            refine xw_iload7 dy_inner_268 ?_
            refine xw_if_lt_t dy_inner_270 rfl (by decide) ?_
            exact xw_vret dy_inner_290 rfl
          · exact xw_vret dy_inner_209 rfl
      · exact xw_vret dy_inner_90 rfl
    · exact xw_vret dy_inner_57 rfl
  · refine xw_iconst dy_inner_26 ki_0 ?_
    refine xw_goto dy_inner_27 rfl ?_
    refine xw_istore4 dy_inner_48 (Nat.le_of_ble_eq_true rfl) rfl ?_
    refine xw_aload0 dy_inner_50 ?_
    refine xw_cVi dy_inner_51 (lk_y_inner_51 (xl_n hn (by decide)) rfl) ok_y_isRaised (my_isRaised hl hn) ⟨Nat.le_of_ble_eq_true rfl, Nat.le_of_ble_eq_true rfl⟩ ?_
    refine xw_if_eq_f dy_inner_54 rfl h2 ?_
    exact xw_vret dy_inner_57 rfl
theorem jy_inner_1 {a1 : Int32} {σ : xs_S} (hJ : yx_J σ) : yx_J (fy_inner_1 a1 σ) := by
  unfold fy_inner_1
  refine xj_wl (fun r1 e_r1 => ?_)
  have hJ_r1 : yx_J r1.2 := by rw [e_r1]; exact (jy_readWord hJ)
  refine xj_wf (fun h2 => ?_) (fun h2 => ?_)
  · refine xj_wl (fun r3 e_r3 => ?_)
    have hJ_r3 : yx_J r3.2 := by rw [e_r3]; exact (jy_readWord hJ_r1)
    refine xj_wf (fun h4 => ?_) (fun h4 => ?_)
    · refine xj_wl (fun s5 e_s5 => ?_)
      have hJ_s5 : yx_J s5 := by rw [e_s5]; exact (xj_i (fun _ => (jy_lookUp vc_1_2 hJ_r3)) (fun _ => (jy_raise hJ_r3)))
      refine xj_wf (fun h6 => ?_) (fun h6 => ?_)
      · refine xj_wl (fun s7 e_s7 => ?_)
        have hJ_s7 : yx_J s7 := by rw [e_s7]; exact (xj_i (fun _ => (xj_i (fun _ => (xj_i (fun _ => (xj_i (fun _ => (jy_raise hJ_s5)) (fun _ => hJ_s5))) (fun _ => (jy_raise hJ_s5)))) (fun _ => (jy_raise hJ_s5)))) (fun _ => (jy_raise hJ_s5)))
        refine xj_wf (fun h8 => ?_) (fun h8 => ?_)
        · refine xj_wl (fun r9 e_r9 => ?_)
          have hJ_r9 : yx_J r9.2 := by rw [e_r9]; exact (jy_segmentWord vc_1_3 hJ_s7)
          refine xj_wl (fun s10 e_s10 => ?_)
          have hJ_s10 : yx_J s10 := by rw [e_s10]; exact (yx_u hJ_r9 (by decide))
          refine xj_wf (fun h11 => ?_) (fun h11 => ?_)
          · refine xj_wl (fun v12 e_v12 => ?_)
            refine xj_wl (fun v13 e_v13 => ?_)
            refine xj_wl (fun s14 e_s14 => ?_)
            have hJ_s14 : yx_J s14 := by rw [e_s14]; exact (yx_u hJ_s10 (by decide))
            refine xj_wl (fun s15 e_s15 => ?_)
            have hJ_s15 : yx_J s15 := by rw [e_s15]; exact (jy_setSegment vc_1_3 vc_1_2 hJ_s14)
            refine xj_wl (fun s16 e_s16 => ?_)
            have hJ_s16 : yx_J s16 := by rw [e_s16]; exact (yx_u hJ_s15 (by decide))
            refine xj_wl (fun s17 e_s17 => ?_)
            have hJ_s17 : yx_J s17 := by rw [e_s17]; exact (jy_pushWord hJ_s16)
            refine xj_wl (fun s18 e_s18 => ?_)
            have hJ_s18 : yx_J s18 := by rw [e_s18]; exact (jy_pushWord hJ_s17)
            refine xj_wl (fun s19 e_s19 => ?_)
            have hJ_s19 : yx_J s19 := by rw [e_s19]; exact (jy_pushWord hJ_s18)
            exact hJ_s19
          · exact hJ_s10
        · exact hJ_s7
      · exact hJ_s5
    · exact hJ_r3
  · exact hJ_r1
def fy_inner_2 (a1 : Int32) (σ : xs_S) : xs_S := xl_l (fy_readWord (((σ 20 23) + ((4 : Int32) * a1)) + (2 : Int32)) (1 : Int32) σ) (fun r1 => (if (fy_isRaised r1.2) = 0 then xl_l (fy_readWord (((r1.2 20 23) + ((4 : Int32) * a1)) + (4 : Int32)) (1 : Int32) r1.2) (fun r3 => (if (fy_isRaised r3.2) = 0 then xl_l ((if (fy_isNull r3.1 r3.2) = 0 then (fy_lookUp r3.1 (1 : Int32) r3.2) else (fy_raise (10 : Int32) (0 : Int32) r3.2))) (fun s5 => (if (fy_isRaised s5) = 0 then xl_l ((if (s5 24 1) = (4 : Int32) then (if (s5 25 1) = a1 then (if (r3.1 &&& (3 : Int32)) = a1 then (if (s5 26 1) = 0 then (fy_raise (12 : Int32) (fy_codeOf r3.1 s5) s5) else s5) else (fy_raise (10 : Int32) (fy_codeOf r3.1 s5) s5)) else (fy_raise (10 : Int32) (fy_codeOf r3.1 s5) s5)) else (fy_raise (10 : Int32) (fy_codeOf r3.1 s5) s5))) (fun s7 => (if (fy_isRaised s7) = 0 then xl_l (fy_segmentWord (1 : Int32) (((s7 20 18) + ((2 : Int32) * (0 : Int32))) &&& (65535 : Int32)) s7) (fun r9 => xl_l ((xu_u r9.2 28 0 r9.1)) (fun s10 => (if (fy_isRaised s10) = 0 then xl_l (fy_segmentWord (1 : Int32) (((s10 20 18) + ((2 : Int32) * (1 : Int32))) &&& (65535 : Int32)) s10) (fun r12 => xl_l ((xu_u r12.2 28 1 r12.1)) (fun s13 => (if (fy_isRaised s13) = 0 then xl_l ((s13 20 1)) (fun v15 => xl_l ((s13 20 18)) (fun v16 => xl_l ((xu_u s13 20 21 a1)) (fun s17 => xl_l ((fy_setSegment (1 : Int32) r3.1 (1 : Int32) s17)) (fun s18 => xl_l ((xu_u s18 20 18 r1.1)) (fun s19 => xl_l ((fy_pushWord v15 s19)) (fun s20 => xl_l ((fy_pushWord v16 s20)) (fun s21 => xl_l ((fy_pushWord (s21 28 1) s21)) (fun s22 => xl_l ((fy_pushWord (s22 28 0) s22)) (fun s23 => s23))))))))) else s13))) else s10))) else s7)) else s5)) else r3.2)) else r1.2))
set_option maxRecDepth 100000 in
set_option maxHeartbeats 4000000 in
theorem my_inner_2 {l : Launch} {N n u : Nat} {a1 : Int32} {σ : xs_S} (hl : l.stackTraces = false) (hn : 29 ≤ n) (hJ : yx_J σ) : xm_m (xk_k N) l ty_inner [.ref 18, .int a1, .int (2 : Int32)] (n, u, σ, xr_0) (xe_w n u (fy_inner_2 a1 σ)) := by
  refine xm_of hl ok_y_inner (Nat.le_of_ble_eq_true rfl) ?_
  show xw_w (xk_k N) l ty_inner 0 [some (.ref 18), some (.int a1), some (.int (2 : Int32)), none, none, none, none, none] [] (n, u, σ, xr_0) (xe_w n u (fy_inner_2 a1 σ))
  unfold fy_inner_2
  refine xw_aload0 dy_inner_0 ?_
  refine xw_aload0 dy_inner_1 ?_
  refine xw_getR dy_inner_2 fl_y_13 (xl_n hn (by decide)) rfl r_18_5 ?_
  refine xw_bipush dy_inner_5 kb_23 ?_
  refine xw_iald dy_inner_7 (xl_n hn (by decide)) rfl vc_23_26 cn_23 ?_
  refine xw_iconst dy_inner_8 ki_4 ?_
  refine xw_iload1 dy_inner_9 ?_
  refine xw_imul dy_inner_10 ?_
  refine xw_iadd dy_inner_11 ?_
  refine xw_iconst dy_inner_12 ki_2 ?_
  refine xw_iadd dy_inner_13 ?_
  refine xw_iconst dy_inner_14 ki_1 ?_
  refine xw_cPi dy_inner_15 (lk_y_inner_15 (xl_n hn (by decide)) rfl) ok_y_readWord (my_readWord hl hn hJ) ⟨Nat.le_of_ble_eq_true rfl, Nat.le_of_ble_eq_true rfl⟩ ?_
  refine xw_lpi (fun r1 e_r1 => ?_)
  have hJ_r1 : yx_J r1.2 := by rw [e_r1]; exact (jy_readWord hJ)
  refine xw_istore3 dy_inner_18 (Nat.le_of_ble_eq_true rfl) rfl ?_
  refine xw_aload0 dy_inner_19 ?_
  refine xw_cVi dy_inner_20 (lk_y_inner_20 (xl_n hn (by decide)) rfl) ok_y_isRaised (my_isRaised hl hn) ⟨Nat.le_of_ble_eq_true rfl, Nat.le_of_ble_eq_true rfl⟩ ?_
  refine xw_if_eq' dy_inner_23 rfl (fun h2 => ?_) (fun h2 => ?_)
  · refine xw_aload0 dy_inner_30 ?_
    refine xw_aload0 dy_inner_31 ?_
    refine xw_getR dy_inner_32 fl_y_13 (xl_n hn (by decide)) rfl r_18_5 ?_
    refine xw_bipush dy_inner_35 kb_23 ?_
    refine xw_iald dy_inner_37 (xl_n hn (by decide)) rfl vc_23_26 cn_23 ?_
    refine xw_iconst dy_inner_38 ki_4 ?_
    refine xw_iload1 dy_inner_39 ?_
    refine xw_imul dy_inner_40 ?_
    refine xw_iadd dy_inner_41 ?_
    refine xw_iconst dy_inner_42 ki_4 ?_
    refine xw_iadd dy_inner_43 ?_
    refine xw_iconst dy_inner_44 ki_1 ?_
    refine xw_cPi dy_inner_45 (lk_y_inner_45 (xl_n hn (by decide)) rfl) ok_y_readWord (my_readWord hl hn hJ_r1) ⟨Nat.le_of_ble_eq_true rfl, Nat.le_of_ble_eq_true rfl⟩ ?_
    refine xw_lpi (fun r3 e_r3 => ?_)
    have hJ_r3 : yx_J r3.2 := by rw [e_r3]; exact (jy_readWord hJ_r1)
    refine xw_istore4 dy_inner_48 (Nat.le_of_ble_eq_true rfl) rfl ?_
    refine xw_aload0 dy_inner_50 ?_
    refine xw_cVi dy_inner_51 (lk_y_inner_51 (xl_n hn (by decide)) rfl) ok_y_isRaised (my_isRaised hl hn) ⟨Nat.le_of_ble_eq_true rfl, Nat.le_of_ble_eq_true rfl⟩ ?_
    refine xw_if_eq' dy_inner_54 rfl (fun h4 => ?_) (fun h4 => ?_)
    · refine xw_iload4 dy_inner_58 ?_
      refine xw_cVi dy_inner_60 (lk_y_inner_60) ok_y_isNull (my_isNull hl hn) ⟨Nat.le_of_ble_eq_true rfl, Nat.le_of_ble_eq_true rfl⟩ ?_
      refine xw_if_eq_mw (J := 83) (a := (fy_lookUp r3.1 (1 : Int32) r3.2)) (b := (fy_raise (10 : Int32) (0 : Int32) r3.2)) dy_inner_63 rfl (fun _ E' k' => ?_) (fun _ E' k' => ?_) ?_
      · refine xw_aload0 dy_inner_76 ?_
        refine xw_iload4 dy_inner_77 ?_
        refine xw_iconst dy_inner_79 ki_1 ?_
        refine xw_cW dy_inner_80 (lk_y_inner_80 (xl_n hn (by decide)) rfl) ok_y_lookUp (my_lookUp hl hn vc_1_2 hJ_r3) ⟨Nat.le_of_ble_eq_true rfl, Nat.le_of_ble_eq_true rfl⟩ ?_
        exact k'
      · refine xw_aload0 dy_inner_66 ?_
        refine xw_bipush dy_inner_67 kb_10 ?_
        refine xw_iconst dy_inner_69 ki_0 ?_
        refine xw_cW dy_inner_70 (lk_y_inner_70 (xl_n hn (by decide)) rfl) ok_y_raise (my_raise hl hn) ⟨Nat.le_of_ble_eq_true rfl, Nat.le_of_ble_eq_true rfl⟩ ?_
        refine xw_goto dy_inner_73 rfl ?_
        exact k'
      refine xw_lw (fun s5 e_s5 => ?_)
      have hJ_s5 : yx_J s5 := by rw [e_s5]; exact (xj_i (fun _ => (jy_lookUp vc_1_2 hJ_r3)) (fun _ => (jy_raise hJ_r3)))
      refine xw_aload0 dy_inner_83 ?_
      refine xw_cVi dy_inner_84 (lk_y_inner_84 (xl_n hn (by decide)) rfl) ok_y_isRaised (my_isRaised hl hn) ⟨Nat.le_of_ble_eq_true rfl, Nat.le_of_ble_eq_true rfl⟩ ?_
      refine xw_if_eq' dy_inner_87 rfl (fun h6 => ?_) (fun h6 => ?_)
      · refine xw_aload0 dy_inner_91 ?_
        refine xw_getR dy_inner_92 fl_y_29 (xl_n hn (by decide)) rfl r_18_14 ?_
        refine xw_iconst dy_inner_95 ki_1 ?_
        refine xw_iald dy_inner_96 (xl_n hn (by decide)) rfl vc_1_2 cn_1 ?_
        refine xw_iconst dy_inner_97 ki_4 ?_
        refine xw_icmp_ne_mw (J := 153) (a := (if (s5 25 1) = a1 then (if (r3.1 &&& (3 : Int32)) = a1 then (if (s5 26 1) = 0 then (fy_raise (12 : Int32) (fy_codeOf r3.1 s5) s5) else s5) else (fy_raise (10 : Int32) (fy_codeOf r3.1 s5) s5)) else (fy_raise (10 : Int32) (fy_codeOf r3.1 s5) s5))) (b := (fy_raise (10 : Int32) (fy_codeOf r3.1 s5) s5)) dy_inner_98 rfl (fun _ E' k' => ?_) (fun _ E' k' => ?_) ?_
        · refine xw_aload0 dy_inner_119 ?_
          refine xw_bipush dy_inner_120 kb_10 ?_
          refine xw_iload4 dy_inner_122 ?_
          refine xw_cVi dy_inner_124 (lk_y_inner_124) ok_y_codeOf (my_codeOf hl hn) ⟨Nat.le_of_ble_eq_true rfl, Nat.le_of_ble_eq_true rfl⟩ ?_
          refine xw_cW dy_inner_127 (lk_y_inner_127 (xl_n hn (by decide)) rfl) ok_y_raise (my_raise hl hn) ⟨Nat.le_of_ble_eq_true rfl, Nat.le_of_ble_eq_true rfl⟩ ?_
          refine xw_goto dy_inner_130 rfl ?_
          exact k'
        · refine xw_aload0 dy_inner_101 ?_
          refine xw_getR dy_inner_102 fl_y_32 (xl_n hn (by decide)) rfl r_18_15 ?_
          refine xw_iconst dy_inner_105 ki_1 ?_
          refine xw_iald dy_inner_106 (xl_n hn (by decide)) rfl vc_1_2 cn_1 ?_
          refine xw_iload1 dy_inner_107 ?_
          refine xw_icmp_ne_mw (J := 153) (a := (if (r3.1 &&& (3 : Int32)) = a1 then (if (s5 26 1) = 0 then (fy_raise (12 : Int32) (fy_codeOf r3.1 s5) s5) else s5) else (fy_raise (10 : Int32) (fy_codeOf r3.1 s5) s5))) (b := (fy_raise (10 : Int32) (fy_codeOf r3.1 s5) s5)) dy_inner_108 rfl (fun _ E' k' => ?_) (fun _ E' k' => ?_) ?_
          · refine xw_aload0 dy_inner_119 ?_
            refine xw_bipush dy_inner_120 kb_10 ?_
            refine xw_iload4 dy_inner_122 ?_
            refine xw_cVi dy_inner_124 (lk_y_inner_124) ok_y_codeOf (my_codeOf hl hn) ⟨Nat.le_of_ble_eq_true rfl, Nat.le_of_ble_eq_true rfl⟩ ?_
            refine xw_cW dy_inner_127 (lk_y_inner_127 (xl_n hn (by decide)) rfl) ok_y_raise (my_raise hl hn) ⟨Nat.le_of_ble_eq_true rfl, Nat.le_of_ble_eq_true rfl⟩ ?_
            refine xw_goto dy_inner_130 rfl ?_
            exact k'
          · refine xw_iload4 dy_inner_111 ?_
            refine xw_iconst dy_inner_113 ki_3 ?_
            refine xw_iand dy_inner_114 ?_
            refine xw_iload1 dy_inner_115 ?_
            refine xw_icmp_eq_mw (J := 153) (a := (if (s5 26 1) = 0 then (fy_raise (12 : Int32) (fy_codeOf r3.1 s5) s5) else s5)) (b := (fy_raise (10 : Int32) (fy_codeOf r3.1 s5) s5)) dy_inner_116 rfl (fun _ E' k' => ?_) (fun _ E' k' => ?_) ?_
            · refine xw_aload0 dy_inner_133 ?_
              refine xw_getR dy_inner_134 fl_y_35 (xl_n hn (by decide)) rfl r_18_16 ?_
              refine xw_iconst dy_inner_137 ki_1 ?_
              refine xw_zald dy_inner_138 (xl_n hn (by decide)) rfl vc_1_2 cn_1 ?_
              refine xw_if_ne_mw (J := 153) (a := (fy_raise (12 : Int32) (fy_codeOf r3.1 s5) s5)) (b := s5) dy_inner_139 rfl (fun _ E' k' => ?_) (fun _ E' k' => ?_) ?_
              · exact k'
              · refine xw_aload0 dy_inner_142 ?_
                refine xw_bipush dy_inner_143 kb_12 ?_
                refine xw_iload4 dy_inner_145 ?_
                refine xw_cVi dy_inner_147 (lk_y_inner_147) ok_y_codeOf (my_codeOf hl hn) ⟨Nat.le_of_ble_eq_true rfl, Nat.le_of_ble_eq_true rfl⟩ ?_
                refine xw_cW dy_inner_150 (lk_y_inner_150 (xl_n hn (by decide)) rfl) ok_y_raise (my_raise hl hn) ⟨Nat.le_of_ble_eq_true rfl, Nat.le_of_ble_eq_true rfl⟩ ?_
                exact k'
              exact k'
            · refine xw_aload0 dy_inner_119 ?_
              refine xw_bipush dy_inner_120 kb_10 ?_
              refine xw_iload4 dy_inner_122 ?_
              refine xw_cVi dy_inner_124 (lk_y_inner_124) ok_y_codeOf (my_codeOf hl hn) ⟨Nat.le_of_ble_eq_true rfl, Nat.le_of_ble_eq_true rfl⟩ ?_
              refine xw_cW dy_inner_127 (lk_y_inner_127 (xl_n hn (by decide)) rfl) ok_y_raise (my_raise hl hn) ⟨Nat.le_of_ble_eq_true rfl, Nat.le_of_ble_eq_true rfl⟩ ?_
              refine xw_goto dy_inner_130 rfl ?_
              exact k'
            exact k'
          exact k'
        refine xw_lw (fun s7 e_s7 => ?_)
        have hJ_s7 : yx_J s7 := by rw [e_s7]; exact (xj_i (fun _ => (xj_i (fun _ => (xj_i (fun _ => (xj_i (fun _ => (jy_raise hJ_s5)) (fun _ => hJ_s5))) (fun _ => (jy_raise hJ_s5)))) (fun _ => (jy_raise hJ_s5)))) (fun _ => (jy_raise hJ_s5)))
        refine xw_iconst dy_inner_153 ki_0 ?_
        refine xw_istore5 dy_inner_154 (Nat.le_of_ble_eq_true rfl) rfl ?_
        refine xw_iload5 dy_inner_156 ?_
        refine xw_iload2 dy_inner_158 ?_
        refine xw_icmp_ge_f dy_inner_159 rfl (by decide) ?_
        refine xw_aload0 dy_inner_162 ?_
        refine xw_cVi dy_inner_163 (lk_y_inner_163 (xl_n hn (by decide)) rfl) ok_y_isRaised (my_isRaised hl hn) ⟨Nat.le_of_ble_eq_true rfl, Nat.le_of_ble_eq_true rfl⟩ ?_
        refine xw_if_ne' dy_inner_166 rfl (fun h8 => ?_) (fun h8 => ?_)
        · refine xw_aload0 dy_inner_202 ?_
          refine xw_cVi dy_inner_203 (lk_y_inner_203 (xl_n hn (by decide)) rfl) ok_y_isRaised (my_isRaised hl hn) ⟨Nat.le_of_ble_eq_true rfl, Nat.le_of_ble_eq_true rfl⟩ ?_
          refine xw_if_eq_f dy_inner_206 rfl h8 ?_
          exact xw_vret dy_inner_209 rfl
        · refine xw_aload0 dy_inner_169 ?_
          refine xw_getR dy_inner_170 fl_y_42 (xl_n hn (by decide)) rfl r_18_18 ?_
          refine xw_iload5 dy_inner_173 ?_
          refine xw_aload0 dy_inner_175 ?_
          refine xw_iconst dy_inner_176 ki_1 ?_
          refine xw_aload0 dy_inner_177 ?_
          refine xw_getR dy_inner_178 fl_y_13 (xl_n hn (by decide)) rfl r_18_5 ?_
          refine xw_bipush dy_inner_181 kb_18 ?_
          refine xw_iald dy_inner_183 (xl_n hn (by decide)) rfl vc_18_26 cn_18 ?_
          refine xw_iconst dy_inner_184 ki_2 ?_
          refine xw_iload5 dy_inner_185 ?_
          refine xw_imul dy_inner_187 ?_
          refine xw_iadd dy_inner_188 ?_
          refine xw_ldc dy_inner_189 kc_y_97 ?_
          refine xw_iand dy_inner_191 ?_
          refine xw_cPi dy_inner_192 (lk_y_inner_192 (xl_n hn (by decide)) rfl) ok_y_segmentWord (my_segmentWord hl hn vc_1_3 hJ_s7) ⟨Nat.le_of_ble_eq_true rfl, Nat.le_of_ble_eq_true rfl⟩ ?_
          refine xw_lpi (fun r9 e_r9 => ?_)
          have hJ_r9 : yx_J r9.2 := by rw [e_r9]; exact (jy_segmentWord vc_1_3 hJ_s7)
          refine xw_iast dy_inner_195 (by decide) (xl_n hn (by decide)) rfl vc_0_8 cn_0 ?_
          refine xw_lw (fun s10 e_s10 => ?_)
          have hJ_s10 : yx_J s10 := by rw [e_s10]; exact (yx_u hJ_r9 (by decide))
          refine xw_iinc5 dy_inner_196 ic_0_1 (Nat.le_of_ble_eq_true rfl) rfl ?_
          refine xw_goto dy_inner_199 rfl ?_
          refine xw_iload5 dy_inner_156 ?_
          refine xw_iload2 dy_inner_158 ?_
          refine xw_icmp_ge_f dy_inner_159 rfl (by decide) ?_
          refine xw_aload0 dy_inner_162 ?_
          refine xw_cVi dy_inner_163 (lk_y_inner_163 (xl_n hn (by decide)) rfl) ok_y_isRaised (my_isRaised hl hn) ⟨Nat.le_of_ble_eq_true rfl, Nat.le_of_ble_eq_true rfl⟩ ?_
          refine xw_if_ne' dy_inner_166 rfl (fun h11 => ?_) (fun h11 => ?_)
          · refine xw_aload0 dy_inner_202 ?_
            refine xw_cVi dy_inner_203 (lk_y_inner_203 (xl_n hn (by decide)) rfl) ok_y_isRaised (my_isRaised hl hn) ⟨Nat.le_of_ble_eq_true rfl, Nat.le_of_ble_eq_true rfl⟩ ?_
            refine xw_if_eq_f dy_inner_206 rfl h11 ?_
            exact xw_vret dy_inner_209 rfl
          · refine xw_aload0 dy_inner_169 ?_
            refine xw_getR dy_inner_170 fl_y_42 (xl_n hn (by decide)) rfl r_18_18 ?_
            refine xw_iload5 dy_inner_173 ?_
            refine xw_aload0 dy_inner_175 ?_
            refine xw_iconst dy_inner_176 ki_1 ?_
            refine xw_aload0 dy_inner_177 ?_
            refine xw_getR dy_inner_178 fl_y_13 (xl_n hn (by decide)) rfl r_18_5 ?_
            refine xw_bipush dy_inner_181 kb_18 ?_
            refine xw_iald dy_inner_183 (xl_n hn (by decide)) rfl vc_18_26 cn_18 ?_
            refine xw_iconst dy_inner_184 ki_2 ?_
            refine xw_iload5 dy_inner_185 ?_
            refine xw_imul dy_inner_187 ?_
            refine xw_iadd dy_inner_188 ?_
            refine xw_ldc dy_inner_189 kc_y_97 ?_
            refine xw_iand dy_inner_191 ?_
            refine xw_cPi dy_inner_192 (lk_y_inner_192 (xl_n hn (by decide)) rfl) ok_y_segmentWord (my_segmentWord hl hn vc_1_3 hJ_s10) ⟨Nat.le_of_ble_eq_true rfl, Nat.le_of_ble_eq_true rfl⟩ ?_
            refine xw_lpi (fun r12 e_r12 => ?_)
            have hJ_r12 : yx_J r12.2 := by rw [e_r12]; exact (jy_segmentWord vc_1_3 hJ_s10)
            refine xw_iast dy_inner_195 (by decide) (xl_n hn (by decide)) rfl vc_1_8 cn_1 ?_
            refine xw_lw (fun s13 e_s13 => ?_)
            have hJ_s13 : yx_J s13 := by rw [e_s13]; exact (yx_u hJ_r12 (by decide))
            refine xw_iinc5 dy_inner_196 ic_1_1 (Nat.le_of_ble_eq_true rfl) rfl ?_
            refine xw_goto dy_inner_199 rfl ?_
            refine xw_iload5 dy_inner_156 ?_
            refine xw_iload2 dy_inner_158 ?_
            refine xw_icmp_ge_t dy_inner_159 rfl (by decide) ?_
            refine xw_aload0 dy_inner_202 ?_
            refine xw_cVi dy_inner_203 (lk_y_inner_203 (xl_n hn (by decide)) rfl) ok_y_isRaised (my_isRaised hl hn) ⟨Nat.le_of_ble_eq_true rfl, Nat.le_of_ble_eq_true rfl⟩ ?_
            refine xw_if_eq' dy_inner_206 rfl (fun h14 => ?_) (fun h14 => ?_)
            · refine xw_aload0 dy_inner_210 ?_
              refine xw_getR dy_inner_211 fl_y_13 (xl_n hn (by decide)) rfl r_18_5 ?_
              refine xw_iconst dy_inner_214 ki_1 ?_
              refine xw_iald dy_inner_215 (xl_n hn (by decide)) rfl vc_1_26 cn_1 ?_
              refine xw_li (fun v15 e_v15 => ?_)
              refine xw_istore5 dy_inner_216 (Nat.le_of_ble_eq_true rfl) rfl ?_
              refine xw_aload0 dy_inner_218 ?_
              refine xw_getR dy_inner_219 fl_y_13 (xl_n hn (by decide)) rfl r_18_5 ?_
              refine xw_bipush dy_inner_222 kb_18 ?_
              refine xw_iald dy_inner_224 (xl_n hn (by decide)) rfl vc_18_26 cn_18 ?_
              refine xw_li (fun v16 e_v16 => ?_)
              refine xw_istore6 dy_inner_225 (Nat.le_of_ble_eq_true rfl) rfl ?_
              refine xw_aload0 dy_inner_227 ?_
              refine xw_getR dy_inner_228 fl_y_13 (xl_n hn (by decide)) rfl r_18_5 ?_
              refine xw_bipush dy_inner_231 kb_21 ?_
              refine xw_iload1 dy_inner_233 ?_
              refine xw_iast dy_inner_234 (by decide) (xl_n hn (by decide)) rfl vc_21_26 cn_21 ?_
              refine xw_lw (fun s17 e_s17 => ?_)
              have hJ_s17 : yx_J s17 := by rw [e_s17]; exact (yx_u hJ_s13 (by decide))
              refine xw_aload0 dy_inner_235 ?_
              refine xw_iconst dy_inner_236 ki_1 ?_
              refine xw_iload4 dy_inner_237 ?_
              refine xw_iconst dy_inner_239 ki_1 ?_
              refine xw_cW dy_inner_240 (lk_y_inner_240 (xl_n hn (by decide)) rfl) ok_y_setSegment (my_setSegment hl hn vc_1_3 vc_1_2) ⟨Nat.le_of_ble_eq_true rfl, Nat.le_of_ble_eq_true rfl⟩ ?_
              refine xw_lw (fun s18 e_s18 => ?_)
              have hJ_s18 : yx_J s18 := by rw [e_s18]; exact (jy_setSegment vc_1_3 vc_1_2 hJ_s17)
              refine xw_aload0 dy_inner_243 ?_
              refine xw_getR dy_inner_244 fl_y_13 (xl_n hn (by decide)) rfl r_18_5 ?_
              refine xw_bipush dy_inner_247 kb_18 ?_
              refine xw_iload3 dy_inner_249 ?_
              refine xw_iast dy_inner_250 (by decide) (xl_n hn (by decide)) rfl vc_18_26 cn_18 ?_
              refine xw_lw (fun s19 e_s19 => ?_)
              have hJ_s19 : yx_J s19 := by rw [e_s19]; exact (yx_u hJ_s18 (by decide))
              refine xw_aload0 dy_inner_251 ?_
              refine xw_iload5 dy_inner_252 ?_
              refine xw_cW dy_inner_254 (lk_y_inner_254 (xl_n hn (by decide)) rfl) ok_y_pushWord (my_pushWord hl hn hJ_s19) ⟨Nat.le_of_ble_eq_true rfl, Nat.le_of_ble_eq_true rfl⟩ ?_
              refine xw_lw (fun s20 e_s20 => ?_)
              have hJ_s20 : yx_J s20 := by rw [e_s20]; exact (jy_pushWord hJ_s19)
              refine xw_aload0 dy_inner_257 ?_
              refine xw_iload6 dy_inner_258 ?_
              refine xw_cW dy_inner_260 (lk_y_inner_260 (xl_n hn (by decide)) rfl) ok_y_pushWord (my_pushWord hl hn hJ_s20) ⟨Nat.le_of_ble_eq_true rfl, Nat.le_of_ble_eq_true rfl⟩ ?_
              refine xw_lw (fun s21 e_s21 => ?_)
              have hJ_s21 : yx_J s21 := by rw [e_s21]; exact (jy_pushWord hJ_s20)
              refine xw_iload2 dy_inner_263 ?_
              refine xw_iconst dy_inner_264 ki_1 ?_
              refine xw_isubc dy_inner_265 sb_2_1 ?_
              refine xw_istore7 dy_inner_266 (Nat.le_of_ble_eq_true rfl) rfl ?_
              refine xw_iload7 dy_inner_268 ?_
              refine xw_if_lt_f dy_inner_270 rfl (by decide) ?_
              refine xw_aload0 dy_inner_273 ?_
              refine xw_aload0 dy_inner_274 ?_
              refine xw_getR dy_inner_275 fl_y_42 (xl_n hn (by decide)) rfl r_18_18 ?_
              refine xw_iload7 dy_inner_278 ?_
              refine xw_iald dy_inner_280 (xl_n hn (by decide)) rfl vc_1_8 cn_1 ?_
              refine xw_cW dy_inner_281 (lk_y_inner_281 (xl_n hn (by decide)) rfl) ok_y_pushWord (my_pushWord hl hn hJ_s21) ⟨Nat.le_of_ble_eq_true rfl, Nat.le_of_ble_eq_true rfl⟩ ?_
              refine xw_lw (fun s22 e_s22 => ?_)
              have hJ_s22 : yx_J s22 := by rw [e_s22]; exact (jy_pushWord hJ_s21)
              refine xw_iinc7 dy_inner_284 ic_1_m1 (Nat.le_of_ble_eq_true rfl) rfl ?_
              refine xw_goto dy_inner_287 rfl ?_
              refine xw_iload7 dy_inner_268 ?_
              refine xw_if_lt_f dy_inner_270 rfl (by decide) ?_
              refine xw_aload0 dy_inner_273 ?_
              refine xw_aload0 dy_inner_274 ?_
              refine xw_getR dy_inner_275 fl_y_42 (xl_n hn (by decide)) rfl r_18_18 ?_
              refine xw_iload7 dy_inner_278 ?_
              refine xw_iald dy_inner_280 (xl_n hn (by decide)) rfl vc_0_8 cn_0 ?_
              refine xw_cW dy_inner_281 (lk_y_inner_281 (xl_n hn (by decide)) rfl) ok_y_pushWord (my_pushWord hl hn hJ_s22) ⟨Nat.le_of_ble_eq_true rfl, Nat.le_of_ble_eq_true rfl⟩ ?_
              refine xw_lw (fun s23 e_s23 => ?_)
              have hJ_s23 : yx_J s23 := by rw [e_s23]; exact (jy_pushWord hJ_s22)
              refine xw_iinc7 dy_inner_284 ic_0_m1 (Nat.le_of_ble_eq_true rfl) rfl ?_
              refine xw_goto dy_inner_287 rfl ?_
              refine xw_iload7 dy_inner_268 ?_
              refine xw_if_lt_t dy_inner_270 rfl (by decide) ?_
              exact xw_vret dy_inner_290 rfl
            · exact xw_vret dy_inner_209 rfl
      · exact xw_vret dy_inner_90 rfl
    · exact xw_vret dy_inner_57 rfl
  · refine xw_iconst dy_inner_26 ki_0 ?_
    refine xw_goto dy_inner_27 rfl ?_
    refine xw_istore4 dy_inner_48 (Nat.le_of_ble_eq_true rfl) rfl ?_
    refine xw_aload0 dy_inner_50 ?_
    refine xw_cVi dy_inner_51 (lk_y_inner_51 (xl_n hn (by decide)) rfl) ok_y_isRaised (my_isRaised hl hn) ⟨Nat.le_of_ble_eq_true rfl, Nat.le_of_ble_eq_true rfl⟩ ?_
    refine xw_if_eq_f dy_inner_54 rfl h2 ?_
    exact xw_vret dy_inner_57 rfl
theorem jy_inner_2 {a1 : Int32} {σ : xs_S} (hJ : yx_J σ) : yx_J (fy_inner_2 a1 σ) := by
  unfold fy_inner_2
  refine xj_wl (fun r1 e_r1 => ?_)
  have hJ_r1 : yx_J r1.2 := by rw [e_r1]; exact (jy_readWord hJ)
  refine xj_wf (fun h2 => ?_) (fun h2 => ?_)
  · refine xj_wl (fun r3 e_r3 => ?_)
    have hJ_r3 : yx_J r3.2 := by rw [e_r3]; exact (jy_readWord hJ_r1)
    refine xj_wf (fun h4 => ?_) (fun h4 => ?_)
    · refine xj_wl (fun s5 e_s5 => ?_)
      have hJ_s5 : yx_J s5 := by rw [e_s5]; exact (xj_i (fun _ => (jy_lookUp vc_1_2 hJ_r3)) (fun _ => (jy_raise hJ_r3)))
      refine xj_wf (fun h6 => ?_) (fun h6 => ?_)
      · refine xj_wl (fun s7 e_s7 => ?_)
        have hJ_s7 : yx_J s7 := by rw [e_s7]; exact (xj_i (fun _ => (xj_i (fun _ => (xj_i (fun _ => (xj_i (fun _ => (jy_raise hJ_s5)) (fun _ => hJ_s5))) (fun _ => (jy_raise hJ_s5)))) (fun _ => (jy_raise hJ_s5)))) (fun _ => (jy_raise hJ_s5)))
        refine xj_wf (fun h8 => ?_) (fun h8 => ?_)
        · refine xj_wl (fun r9 e_r9 => ?_)
          have hJ_r9 : yx_J r9.2 := by rw [e_r9]; exact (jy_segmentWord vc_1_3 hJ_s7)
          refine xj_wl (fun s10 e_s10 => ?_)
          have hJ_s10 : yx_J s10 := by rw [e_s10]; exact (yx_u hJ_r9 (by decide))
          refine xj_wf (fun h11 => ?_) (fun h11 => ?_)
          · refine xj_wl (fun r12 e_r12 => ?_)
            have hJ_r12 : yx_J r12.2 := by rw [e_r12]; exact (jy_segmentWord vc_1_3 hJ_s10)
            refine xj_wl (fun s13 e_s13 => ?_)
            have hJ_s13 : yx_J s13 := by rw [e_s13]; exact (yx_u hJ_r12 (by decide))
            refine xj_wf (fun h14 => ?_) (fun h14 => ?_)
            · refine xj_wl (fun v15 e_v15 => ?_)
              refine xj_wl (fun v16 e_v16 => ?_)
              refine xj_wl (fun s17 e_s17 => ?_)
              have hJ_s17 : yx_J s17 := by rw [e_s17]; exact (yx_u hJ_s13 (by decide))
              refine xj_wl (fun s18 e_s18 => ?_)
              have hJ_s18 : yx_J s18 := by rw [e_s18]; exact (jy_setSegment vc_1_3 vc_1_2 hJ_s17)
              refine xj_wl (fun s19 e_s19 => ?_)
              have hJ_s19 : yx_J s19 := by rw [e_s19]; exact (yx_u hJ_s18 (by decide))
              refine xj_wl (fun s20 e_s20 => ?_)
              have hJ_s20 : yx_J s20 := by rw [e_s20]; exact (jy_pushWord hJ_s19)
              refine xj_wl (fun s21 e_s21 => ?_)
              have hJ_s21 : yx_J s21 := by rw [e_s21]; exact (jy_pushWord hJ_s20)
              refine xj_wl (fun s22 e_s22 => ?_)
              have hJ_s22 : yx_J s22 := by rw [e_s22]; exact (jy_pushWord hJ_s21)
              refine xj_wl (fun s23 e_s23 => ?_)
              have hJ_s23 : yx_J s23 := by rw [e_s23]; exact (jy_pushWord hJ_s22)
              exact hJ_s23
            · exact hJ_s13
          · exact hJ_s10
        · exact hJ_s7
      · exact hJ_s5
    · exact hJ_r3
  · exact hJ_r1
def fy_inner_3 (a1 : Int32) (σ : xs_S) : xs_S := xl_l (fy_readWord (((σ 20 23) + ((4 : Int32) * a1)) + (2 : Int32)) (1 : Int32) σ) (fun r1 => (if (fy_isRaised r1.2) = 0 then xl_l (fy_readWord (((r1.2 20 23) + ((4 : Int32) * a1)) + (4 : Int32)) (1 : Int32) r1.2) (fun r3 => (if (fy_isRaised r3.2) = 0 then xl_l ((if (fy_isNull r3.1 r3.2) = 0 then (fy_lookUp r3.1 (1 : Int32) r3.2) else (fy_raise (10 : Int32) (0 : Int32) r3.2))) (fun s5 => (if (fy_isRaised s5) = 0 then xl_l ((if (s5 24 1) = (4 : Int32) then (if (s5 25 1) = a1 then (if (r3.1 &&& (3 : Int32)) = a1 then (if (s5 26 1) = 0 then (fy_raise (12 : Int32) (fy_codeOf r3.1 s5) s5) else s5) else (fy_raise (10 : Int32) (fy_codeOf r3.1 s5) s5)) else (fy_raise (10 : Int32) (fy_codeOf r3.1 s5) s5)) else (fy_raise (10 : Int32) (fy_codeOf r3.1 s5) s5))) (fun s7 => (if (fy_isRaised s7) = 0 then xl_l (fy_segmentWord (1 : Int32) (((s7 20 18) + ((2 : Int32) * (0 : Int32))) &&& (65535 : Int32)) s7) (fun r9 => xl_l ((xu_u r9.2 28 0 r9.1)) (fun s10 => (if (fy_isRaised s10) = 0 then xl_l (fy_segmentWord (1 : Int32) (((s10 20 18) + ((2 : Int32) * (1 : Int32))) &&& (65535 : Int32)) s10) (fun r12 => xl_l ((xu_u r12.2 28 1 r12.1)) (fun s13 => (if (fy_isRaised s13) = 0 then xl_l (fy_segmentWord (1 : Int32) (((s13 20 18) + ((2 : Int32) * (2 : Int32))) &&& (65535 : Int32)) s13) (fun r15 => xl_l ((xu_u r15.2 28 2 r15.1)) (fun s16 => (if (fy_isRaised s16) = 0 then xl_l ((s16 20 1)) (fun v18 => xl_l ((s16 20 18)) (fun v19 => xl_l ((xu_u s16 20 21 a1)) (fun s20 => xl_l ((fy_setSegment (1 : Int32) r3.1 (1 : Int32) s20)) (fun s21 => xl_l ((xu_u s21 20 18 r1.1)) (fun s22 => xl_l ((fy_pushWord v18 s22)) (fun s23 => xl_l ((fy_pushWord v19 s23)) (fun s24 => xl_l ((fy_pushWord (s24 28 2) s24)) (fun s25 => xl_l ((fy_pushWord (s25 28 1) s25)) (fun s26 => xl_l ((fy_pushWord (s26 28 0) s26)) (fun s27 => s27)))))))))) else s16))) else s13))) else s10))) else s7)) else s5)) else r3.2)) else r1.2))
set_option maxRecDepth 100000 in
set_option maxHeartbeats 4000000 in
theorem my_inner_3 {l : Launch} {N n u : Nat} {a1 : Int32} {σ : xs_S} (hl : l.stackTraces = false) (hn : 29 ≤ n) (hJ : yx_J σ) : xm_m (xk_k N) l ty_inner [.ref 18, .int a1, .int (3 : Int32)] (n, u, σ, xr_0) (xe_w n u (fy_inner_3 a1 σ)) := by
  refine xm_of hl ok_y_inner (Nat.le_of_ble_eq_true rfl) ?_
  show xw_w (xk_k N) l ty_inner 0 [some (.ref 18), some (.int a1), some (.int (3 : Int32)), none, none, none, none, none] [] (n, u, σ, xr_0) (xe_w n u (fy_inner_3 a1 σ))
  unfold fy_inner_3
  refine xw_aload0 dy_inner_0 ?_
  refine xw_aload0 dy_inner_1 ?_
  refine xw_getR dy_inner_2 fl_y_13 (xl_n hn (by decide)) rfl r_18_5 ?_
  refine xw_bipush dy_inner_5 kb_23 ?_
  refine xw_iald dy_inner_7 (xl_n hn (by decide)) rfl vc_23_26 cn_23 ?_
  refine xw_iconst dy_inner_8 ki_4 ?_
  refine xw_iload1 dy_inner_9 ?_
  refine xw_imul dy_inner_10 ?_
  refine xw_iadd dy_inner_11 ?_
  refine xw_iconst dy_inner_12 ki_2 ?_
  refine xw_iadd dy_inner_13 ?_
  refine xw_iconst dy_inner_14 ki_1 ?_
  refine xw_cPi dy_inner_15 (lk_y_inner_15 (xl_n hn (by decide)) rfl) ok_y_readWord (my_readWord hl hn hJ) ⟨Nat.le_of_ble_eq_true rfl, Nat.le_of_ble_eq_true rfl⟩ ?_
  refine xw_lpi (fun r1 e_r1 => ?_)
  have hJ_r1 : yx_J r1.2 := by rw [e_r1]; exact (jy_readWord hJ)
  refine xw_istore3 dy_inner_18 (Nat.le_of_ble_eq_true rfl) rfl ?_
  refine xw_aload0 dy_inner_19 ?_
  refine xw_cVi dy_inner_20 (lk_y_inner_20 (xl_n hn (by decide)) rfl) ok_y_isRaised (my_isRaised hl hn) ⟨Nat.le_of_ble_eq_true rfl, Nat.le_of_ble_eq_true rfl⟩ ?_
  refine xw_if_eq' dy_inner_23 rfl (fun h2 => ?_) (fun h2 => ?_)
  · refine xw_aload0 dy_inner_30 ?_
    refine xw_aload0 dy_inner_31 ?_
    refine xw_getR dy_inner_32 fl_y_13 (xl_n hn (by decide)) rfl r_18_5 ?_
    refine xw_bipush dy_inner_35 kb_23 ?_
    refine xw_iald dy_inner_37 (xl_n hn (by decide)) rfl vc_23_26 cn_23 ?_
    refine xw_iconst dy_inner_38 ki_4 ?_
    refine xw_iload1 dy_inner_39 ?_
    refine xw_imul dy_inner_40 ?_
    refine xw_iadd dy_inner_41 ?_
    refine xw_iconst dy_inner_42 ki_4 ?_
    refine xw_iadd dy_inner_43 ?_
    refine xw_iconst dy_inner_44 ki_1 ?_
    refine xw_cPi dy_inner_45 (lk_y_inner_45 (xl_n hn (by decide)) rfl) ok_y_readWord (my_readWord hl hn hJ_r1) ⟨Nat.le_of_ble_eq_true rfl, Nat.le_of_ble_eq_true rfl⟩ ?_
    refine xw_lpi (fun r3 e_r3 => ?_)
    have hJ_r3 : yx_J r3.2 := by rw [e_r3]; exact (jy_readWord hJ_r1)
    refine xw_istore4 dy_inner_48 (Nat.le_of_ble_eq_true rfl) rfl ?_
    refine xw_aload0 dy_inner_50 ?_
    refine xw_cVi dy_inner_51 (lk_y_inner_51 (xl_n hn (by decide)) rfl) ok_y_isRaised (my_isRaised hl hn) ⟨Nat.le_of_ble_eq_true rfl, Nat.le_of_ble_eq_true rfl⟩ ?_
    refine xw_if_eq' dy_inner_54 rfl (fun h4 => ?_) (fun h4 => ?_)
    · refine xw_iload4 dy_inner_58 ?_
      refine xw_cVi dy_inner_60 (lk_y_inner_60) ok_y_isNull (my_isNull hl hn) ⟨Nat.le_of_ble_eq_true rfl, Nat.le_of_ble_eq_true rfl⟩ ?_
      refine xw_if_eq_mw (J := 83) (a := (fy_lookUp r3.1 (1 : Int32) r3.2)) (b := (fy_raise (10 : Int32) (0 : Int32) r3.2)) dy_inner_63 rfl (fun _ E' k' => ?_) (fun _ E' k' => ?_) ?_
      · refine xw_aload0 dy_inner_76 ?_
        refine xw_iload4 dy_inner_77 ?_
        refine xw_iconst dy_inner_79 ki_1 ?_
        refine xw_cW dy_inner_80 (lk_y_inner_80 (xl_n hn (by decide)) rfl) ok_y_lookUp (my_lookUp hl hn vc_1_2 hJ_r3) ⟨Nat.le_of_ble_eq_true rfl, Nat.le_of_ble_eq_true rfl⟩ ?_
        exact k'
      · refine xw_aload0 dy_inner_66 ?_
        refine xw_bipush dy_inner_67 kb_10 ?_
        refine xw_iconst dy_inner_69 ki_0 ?_
        refine xw_cW dy_inner_70 (lk_y_inner_70 (xl_n hn (by decide)) rfl) ok_y_raise (my_raise hl hn) ⟨Nat.le_of_ble_eq_true rfl, Nat.le_of_ble_eq_true rfl⟩ ?_
        refine xw_goto dy_inner_73 rfl ?_
        exact k'
      refine xw_lw (fun s5 e_s5 => ?_)
      have hJ_s5 : yx_J s5 := by rw [e_s5]; exact (xj_i (fun _ => (jy_lookUp vc_1_2 hJ_r3)) (fun _ => (jy_raise hJ_r3)))
      refine xw_aload0 dy_inner_83 ?_
      refine xw_cVi dy_inner_84 (lk_y_inner_84 (xl_n hn (by decide)) rfl) ok_y_isRaised (my_isRaised hl hn) ⟨Nat.le_of_ble_eq_true rfl, Nat.le_of_ble_eq_true rfl⟩ ?_
      refine xw_if_eq' dy_inner_87 rfl (fun h6 => ?_) (fun h6 => ?_)
      · refine xw_aload0 dy_inner_91 ?_
        refine xw_getR dy_inner_92 fl_y_29 (xl_n hn (by decide)) rfl r_18_14 ?_
        refine xw_iconst dy_inner_95 ki_1 ?_
        refine xw_iald dy_inner_96 (xl_n hn (by decide)) rfl vc_1_2 cn_1 ?_
        refine xw_iconst dy_inner_97 ki_4 ?_
        refine xw_icmp_ne_mw (J := 153) (a := (if (s5 25 1) = a1 then (if (r3.1 &&& (3 : Int32)) = a1 then (if (s5 26 1) = 0 then (fy_raise (12 : Int32) (fy_codeOf r3.1 s5) s5) else s5) else (fy_raise (10 : Int32) (fy_codeOf r3.1 s5) s5)) else (fy_raise (10 : Int32) (fy_codeOf r3.1 s5) s5))) (b := (fy_raise (10 : Int32) (fy_codeOf r3.1 s5) s5)) dy_inner_98 rfl (fun _ E' k' => ?_) (fun _ E' k' => ?_) ?_
        · refine xw_aload0 dy_inner_119 ?_
          refine xw_bipush dy_inner_120 kb_10 ?_
          refine xw_iload4 dy_inner_122 ?_
          refine xw_cVi dy_inner_124 (lk_y_inner_124) ok_y_codeOf (my_codeOf hl hn) ⟨Nat.le_of_ble_eq_true rfl, Nat.le_of_ble_eq_true rfl⟩ ?_
          refine xw_cW dy_inner_127 (lk_y_inner_127 (xl_n hn (by decide)) rfl) ok_y_raise (my_raise hl hn) ⟨Nat.le_of_ble_eq_true rfl, Nat.le_of_ble_eq_true rfl⟩ ?_
          refine xw_goto dy_inner_130 rfl ?_
          exact k'
        · refine xw_aload0 dy_inner_101 ?_
          refine xw_getR dy_inner_102 fl_y_32 (xl_n hn (by decide)) rfl r_18_15 ?_
          refine xw_iconst dy_inner_105 ki_1 ?_
          refine xw_iald dy_inner_106 (xl_n hn (by decide)) rfl vc_1_2 cn_1 ?_
          refine xw_iload1 dy_inner_107 ?_
          refine xw_icmp_ne_mw (J := 153) (a := (if (r3.1 &&& (3 : Int32)) = a1 then (if (s5 26 1) = 0 then (fy_raise (12 : Int32) (fy_codeOf r3.1 s5) s5) else s5) else (fy_raise (10 : Int32) (fy_codeOf r3.1 s5) s5))) (b := (fy_raise (10 : Int32) (fy_codeOf r3.1 s5) s5)) dy_inner_108 rfl (fun _ E' k' => ?_) (fun _ E' k' => ?_) ?_
          · refine xw_aload0 dy_inner_119 ?_
            refine xw_bipush dy_inner_120 kb_10 ?_
            refine xw_iload4 dy_inner_122 ?_
            refine xw_cVi dy_inner_124 (lk_y_inner_124) ok_y_codeOf (my_codeOf hl hn) ⟨Nat.le_of_ble_eq_true rfl, Nat.le_of_ble_eq_true rfl⟩ ?_
            refine xw_cW dy_inner_127 (lk_y_inner_127 (xl_n hn (by decide)) rfl) ok_y_raise (my_raise hl hn) ⟨Nat.le_of_ble_eq_true rfl, Nat.le_of_ble_eq_true rfl⟩ ?_
            refine xw_goto dy_inner_130 rfl ?_
            exact k'
          · refine xw_iload4 dy_inner_111 ?_
            refine xw_iconst dy_inner_113 ki_3 ?_
            refine xw_iand dy_inner_114 ?_
            refine xw_iload1 dy_inner_115 ?_
            refine xw_icmp_eq_mw (J := 153) (a := (if (s5 26 1) = 0 then (fy_raise (12 : Int32) (fy_codeOf r3.1 s5) s5) else s5)) (b := (fy_raise (10 : Int32) (fy_codeOf r3.1 s5) s5)) dy_inner_116 rfl (fun _ E' k' => ?_) (fun _ E' k' => ?_) ?_
            · refine xw_aload0 dy_inner_133 ?_
              refine xw_getR dy_inner_134 fl_y_35 (xl_n hn (by decide)) rfl r_18_16 ?_
              refine xw_iconst dy_inner_137 ki_1 ?_
              refine xw_zald dy_inner_138 (xl_n hn (by decide)) rfl vc_1_2 cn_1 ?_
              refine xw_if_ne_mw (J := 153) (a := (fy_raise (12 : Int32) (fy_codeOf r3.1 s5) s5)) (b := s5) dy_inner_139 rfl (fun _ E' k' => ?_) (fun _ E' k' => ?_) ?_
              · exact k'
              · refine xw_aload0 dy_inner_142 ?_
                refine xw_bipush dy_inner_143 kb_12 ?_
                refine xw_iload4 dy_inner_145 ?_
                refine xw_cVi dy_inner_147 (lk_y_inner_147) ok_y_codeOf (my_codeOf hl hn) ⟨Nat.le_of_ble_eq_true rfl, Nat.le_of_ble_eq_true rfl⟩ ?_
                refine xw_cW dy_inner_150 (lk_y_inner_150 (xl_n hn (by decide)) rfl) ok_y_raise (my_raise hl hn) ⟨Nat.le_of_ble_eq_true rfl, Nat.le_of_ble_eq_true rfl⟩ ?_
                exact k'
              exact k'
            · refine xw_aload0 dy_inner_119 ?_
              refine xw_bipush dy_inner_120 kb_10 ?_
              refine xw_iload4 dy_inner_122 ?_
              refine xw_cVi dy_inner_124 (lk_y_inner_124) ok_y_codeOf (my_codeOf hl hn) ⟨Nat.le_of_ble_eq_true rfl, Nat.le_of_ble_eq_true rfl⟩ ?_
              refine xw_cW dy_inner_127 (lk_y_inner_127 (xl_n hn (by decide)) rfl) ok_y_raise (my_raise hl hn) ⟨Nat.le_of_ble_eq_true rfl, Nat.le_of_ble_eq_true rfl⟩ ?_
              refine xw_goto dy_inner_130 rfl ?_
              exact k'
            exact k'
          exact k'
        refine xw_lw (fun s7 e_s7 => ?_)
        have hJ_s7 : yx_J s7 := by rw [e_s7]; exact (xj_i (fun _ => (xj_i (fun _ => (xj_i (fun _ => (xj_i (fun _ => (jy_raise hJ_s5)) (fun _ => hJ_s5))) (fun _ => (jy_raise hJ_s5)))) (fun _ => (jy_raise hJ_s5)))) (fun _ => (jy_raise hJ_s5)))
        refine xw_iconst dy_inner_153 ki_0 ?_
        refine xw_istore5 dy_inner_154 (Nat.le_of_ble_eq_true rfl) rfl ?_
        refine xw_iload5 dy_inner_156 ?_
        refine xw_iload2 dy_inner_158 ?_
        refine xw_icmp_ge_f dy_inner_159 rfl (by decide) ?_
        refine xw_aload0 dy_inner_162 ?_
        refine xw_cVi dy_inner_163 (lk_y_inner_163 (xl_n hn (by decide)) rfl) ok_y_isRaised (my_isRaised hl hn) ⟨Nat.le_of_ble_eq_true rfl, Nat.le_of_ble_eq_true rfl⟩ ?_
        refine xw_if_ne' dy_inner_166 rfl (fun h8 => ?_) (fun h8 => ?_)
        · refine xw_aload0 dy_inner_202 ?_
          refine xw_cVi dy_inner_203 (lk_y_inner_203 (xl_n hn (by decide)) rfl) ok_y_isRaised (my_isRaised hl hn) ⟨Nat.le_of_ble_eq_true rfl, Nat.le_of_ble_eq_true rfl⟩ ?_
          refine xw_if_eq_f dy_inner_206 rfl h8 ?_
          exact xw_vret dy_inner_209 rfl
        · refine xw_aload0 dy_inner_169 ?_
          refine xw_getR dy_inner_170 fl_y_42 (xl_n hn (by decide)) rfl r_18_18 ?_
          refine xw_iload5 dy_inner_173 ?_
          refine xw_aload0 dy_inner_175 ?_
          refine xw_iconst dy_inner_176 ki_1 ?_
          refine xw_aload0 dy_inner_177 ?_
          refine xw_getR dy_inner_178 fl_y_13 (xl_n hn (by decide)) rfl r_18_5 ?_
          refine xw_bipush dy_inner_181 kb_18 ?_
          refine xw_iald dy_inner_183 (xl_n hn (by decide)) rfl vc_18_26 cn_18 ?_
          refine xw_iconst dy_inner_184 ki_2 ?_
          refine xw_iload5 dy_inner_185 ?_
          refine xw_imul dy_inner_187 ?_
          refine xw_iadd dy_inner_188 ?_
          refine xw_ldc dy_inner_189 kc_y_97 ?_
          refine xw_iand dy_inner_191 ?_
          refine xw_cPi dy_inner_192 (lk_y_inner_192 (xl_n hn (by decide)) rfl) ok_y_segmentWord (my_segmentWord hl hn vc_1_3 hJ_s7) ⟨Nat.le_of_ble_eq_true rfl, Nat.le_of_ble_eq_true rfl⟩ ?_
          refine xw_lpi (fun r9 e_r9 => ?_)
          have hJ_r9 : yx_J r9.2 := by rw [e_r9]; exact (jy_segmentWord vc_1_3 hJ_s7)
          refine xw_iast dy_inner_195 (by decide) (xl_n hn (by decide)) rfl vc_0_8 cn_0 ?_
          refine xw_lw (fun s10 e_s10 => ?_)
          have hJ_s10 : yx_J s10 := by rw [e_s10]; exact (yx_u hJ_r9 (by decide))
          refine xw_iinc5 dy_inner_196 ic_0_1 (Nat.le_of_ble_eq_true rfl) rfl ?_
          refine xw_goto dy_inner_199 rfl ?_
          refine xw_iload5 dy_inner_156 ?_
          refine xw_iload2 dy_inner_158 ?_
          refine xw_icmp_ge_f dy_inner_159 rfl (by decide) ?_
          refine xw_aload0 dy_inner_162 ?_
          refine xw_cVi dy_inner_163 (lk_y_inner_163 (xl_n hn (by decide)) rfl) ok_y_isRaised (my_isRaised hl hn) ⟨Nat.le_of_ble_eq_true rfl, Nat.le_of_ble_eq_true rfl⟩ ?_
          refine xw_if_ne' dy_inner_166 rfl (fun h11 => ?_) (fun h11 => ?_)
          · refine xw_aload0 dy_inner_202 ?_
            refine xw_cVi dy_inner_203 (lk_y_inner_203 (xl_n hn (by decide)) rfl) ok_y_isRaised (my_isRaised hl hn) ⟨Nat.le_of_ble_eq_true rfl, Nat.le_of_ble_eq_true rfl⟩ ?_
            refine xw_if_eq_f dy_inner_206 rfl h11 ?_
            exact xw_vret dy_inner_209 rfl
          · refine xw_aload0 dy_inner_169 ?_
            refine xw_getR dy_inner_170 fl_y_42 (xl_n hn (by decide)) rfl r_18_18 ?_
            refine xw_iload5 dy_inner_173 ?_
            refine xw_aload0 dy_inner_175 ?_
            refine xw_iconst dy_inner_176 ki_1 ?_
            refine xw_aload0 dy_inner_177 ?_
            refine xw_getR dy_inner_178 fl_y_13 (xl_n hn (by decide)) rfl r_18_5 ?_
            refine xw_bipush dy_inner_181 kb_18 ?_
            refine xw_iald dy_inner_183 (xl_n hn (by decide)) rfl vc_18_26 cn_18 ?_
            refine xw_iconst dy_inner_184 ki_2 ?_
            refine xw_iload5 dy_inner_185 ?_
            refine xw_imul dy_inner_187 ?_
            refine xw_iadd dy_inner_188 ?_
            refine xw_ldc dy_inner_189 kc_y_97 ?_
            refine xw_iand dy_inner_191 ?_
            refine xw_cPi dy_inner_192 (lk_y_inner_192 (xl_n hn (by decide)) rfl) ok_y_segmentWord (my_segmentWord hl hn vc_1_3 hJ_s10) ⟨Nat.le_of_ble_eq_true rfl, Nat.le_of_ble_eq_true rfl⟩ ?_
            refine xw_lpi (fun r12 e_r12 => ?_)
            have hJ_r12 : yx_J r12.2 := by rw [e_r12]; exact (jy_segmentWord vc_1_3 hJ_s10)
            refine xw_iast dy_inner_195 (by decide) (xl_n hn (by decide)) rfl vc_1_8 cn_1 ?_
            refine xw_lw (fun s13 e_s13 => ?_)
            have hJ_s13 : yx_J s13 := by rw [e_s13]; exact (yx_u hJ_r12 (by decide))
            refine xw_iinc5 dy_inner_196 ic_1_1 (Nat.le_of_ble_eq_true rfl) rfl ?_
            refine xw_goto dy_inner_199 rfl ?_
            refine xw_iload5 dy_inner_156 ?_
            refine xw_iload2 dy_inner_158 ?_
            refine xw_icmp_ge_f dy_inner_159 rfl (by decide) ?_
            refine xw_aload0 dy_inner_162 ?_
            refine xw_cVi dy_inner_163 (lk_y_inner_163 (xl_n hn (by decide)) rfl) ok_y_isRaised (my_isRaised hl hn) ⟨Nat.le_of_ble_eq_true rfl, Nat.le_of_ble_eq_true rfl⟩ ?_
            refine xw_if_ne' dy_inner_166 rfl (fun h14 => ?_) (fun h14 => ?_)
            · refine xw_aload0 dy_inner_202 ?_
              refine xw_cVi dy_inner_203 (lk_y_inner_203 (xl_n hn (by decide)) rfl) ok_y_isRaised (my_isRaised hl hn) ⟨Nat.le_of_ble_eq_true rfl, Nat.le_of_ble_eq_true rfl⟩ ?_
              refine xw_if_eq_f dy_inner_206 rfl h14 ?_
              exact xw_vret dy_inner_209 rfl
            · refine xw_aload0 dy_inner_169 ?_
              refine xw_getR dy_inner_170 fl_y_42 (xl_n hn (by decide)) rfl r_18_18 ?_
              refine xw_iload5 dy_inner_173 ?_
              refine xw_aload0 dy_inner_175 ?_
              refine xw_iconst dy_inner_176 ki_1 ?_
              refine xw_aload0 dy_inner_177 ?_
              refine xw_getR dy_inner_178 fl_y_13 (xl_n hn (by decide)) rfl r_18_5 ?_
              refine xw_bipush dy_inner_181 kb_18 ?_
              refine xw_iald dy_inner_183 (xl_n hn (by decide)) rfl vc_18_26 cn_18 ?_
              refine xw_iconst dy_inner_184 ki_2 ?_
              refine xw_iload5 dy_inner_185 ?_
              refine xw_imul dy_inner_187 ?_
              refine xw_iadd dy_inner_188 ?_
              refine xw_ldc dy_inner_189 kc_y_97 ?_
              refine xw_iand dy_inner_191 ?_
              refine xw_cPi dy_inner_192 (lk_y_inner_192 (xl_n hn (by decide)) rfl) ok_y_segmentWord (my_segmentWord hl hn vc_1_3 hJ_s13) ⟨Nat.le_of_ble_eq_true rfl, Nat.le_of_ble_eq_true rfl⟩ ?_
              refine xw_lpi (fun r15 e_r15 => ?_)
              have hJ_r15 : yx_J r15.2 := by rw [e_r15]; exact (jy_segmentWord vc_1_3 hJ_s13)
              refine xw_iast dy_inner_195 (by decide) (xl_n hn (by decide)) rfl vc_2_8 cn_2 ?_
              refine xw_lw (fun s16 e_s16 => ?_)
              have hJ_s16 : yx_J s16 := by rw [e_s16]; exact (yx_u hJ_r15 (by decide))
              refine xw_iinc5 dy_inner_196 ic_2_1 (Nat.le_of_ble_eq_true rfl) rfl ?_
              refine xw_goto dy_inner_199 rfl ?_
              refine xw_iload5 dy_inner_156 ?_
              refine xw_iload2 dy_inner_158 ?_
              refine xw_icmp_ge_t dy_inner_159 rfl (by decide) ?_
              refine xw_aload0 dy_inner_202 ?_
              refine xw_cVi dy_inner_203 (lk_y_inner_203 (xl_n hn (by decide)) rfl) ok_y_isRaised (my_isRaised hl hn) ⟨Nat.le_of_ble_eq_true rfl, Nat.le_of_ble_eq_true rfl⟩ ?_
              refine xw_if_eq' dy_inner_206 rfl (fun h17 => ?_) (fun h17 => ?_)
              · refine xw_aload0 dy_inner_210 ?_
                refine xw_getR dy_inner_211 fl_y_13 (xl_n hn (by decide)) rfl r_18_5 ?_
                refine xw_iconst dy_inner_214 ki_1 ?_
                refine xw_iald dy_inner_215 (xl_n hn (by decide)) rfl vc_1_26 cn_1 ?_
                refine xw_li (fun v18 e_v18 => ?_)
                refine xw_istore5 dy_inner_216 (Nat.le_of_ble_eq_true rfl) rfl ?_
                refine xw_aload0 dy_inner_218 ?_
                refine xw_getR dy_inner_219 fl_y_13 (xl_n hn (by decide)) rfl r_18_5 ?_
                refine xw_bipush dy_inner_222 kb_18 ?_
                refine xw_iald dy_inner_224 (xl_n hn (by decide)) rfl vc_18_26 cn_18 ?_
                refine xw_li (fun v19 e_v19 => ?_)
                refine xw_istore6 dy_inner_225 (Nat.le_of_ble_eq_true rfl) rfl ?_
                refine xw_aload0 dy_inner_227 ?_
                refine xw_getR dy_inner_228 fl_y_13 (xl_n hn (by decide)) rfl r_18_5 ?_
                refine xw_bipush dy_inner_231 kb_21 ?_
                refine xw_iload1 dy_inner_233 ?_
                refine xw_iast dy_inner_234 (by decide) (xl_n hn (by decide)) rfl vc_21_26 cn_21 ?_
                refine xw_lw (fun s20 e_s20 => ?_)
                have hJ_s20 : yx_J s20 := by rw [e_s20]; exact (yx_u hJ_s16 (by decide))
                refine xw_aload0 dy_inner_235 ?_
                refine xw_iconst dy_inner_236 ki_1 ?_
                refine xw_iload4 dy_inner_237 ?_
                refine xw_iconst dy_inner_239 ki_1 ?_
                refine xw_cW dy_inner_240 (lk_y_inner_240 (xl_n hn (by decide)) rfl) ok_y_setSegment (my_setSegment hl hn vc_1_3 vc_1_2) ⟨Nat.le_of_ble_eq_true rfl, Nat.le_of_ble_eq_true rfl⟩ ?_
                refine xw_lw (fun s21 e_s21 => ?_)
                have hJ_s21 : yx_J s21 := by rw [e_s21]; exact (jy_setSegment vc_1_3 vc_1_2 hJ_s20)
                refine xw_aload0 dy_inner_243 ?_
                refine xw_getR dy_inner_244 fl_y_13 (xl_n hn (by decide)) rfl r_18_5 ?_
                refine xw_bipush dy_inner_247 kb_18 ?_
                refine xw_iload3 dy_inner_249 ?_
                refine xw_iast dy_inner_250 (by decide) (xl_n hn (by decide)) rfl vc_18_26 cn_18 ?_
                refine xw_lw (fun s22 e_s22 => ?_)
                have hJ_s22 : yx_J s22 := by rw [e_s22]; exact (yx_u hJ_s21 (by decide))
                refine xw_aload0 dy_inner_251 ?_
                refine xw_iload5 dy_inner_252 ?_
                refine xw_cW dy_inner_254 (lk_y_inner_254 (xl_n hn (by decide)) rfl) ok_y_pushWord (my_pushWord hl hn hJ_s22) ⟨Nat.le_of_ble_eq_true rfl, Nat.le_of_ble_eq_true rfl⟩ ?_
                refine xw_lw (fun s23 e_s23 => ?_)
                have hJ_s23 : yx_J s23 := by rw [e_s23]; exact (jy_pushWord hJ_s22)
                refine xw_aload0 dy_inner_257 ?_
                refine xw_iload6 dy_inner_258 ?_
                refine xw_cW dy_inner_260 (lk_y_inner_260 (xl_n hn (by decide)) rfl) ok_y_pushWord (my_pushWord hl hn hJ_s23) ⟨Nat.le_of_ble_eq_true rfl, Nat.le_of_ble_eq_true rfl⟩ ?_
                refine xw_lw (fun s24 e_s24 => ?_)
                have hJ_s24 : yx_J s24 := by rw [e_s24]; exact (jy_pushWord hJ_s23)
                refine xw_iload2 dy_inner_263 ?_
                refine xw_iconst dy_inner_264 ki_1 ?_
                refine xw_isubc dy_inner_265 sb_3_1 ?_
                refine xw_istore7 dy_inner_266 (Nat.le_of_ble_eq_true rfl) rfl ?_
                refine xw_iload7 dy_inner_268 ?_
                refine xw_if_lt_f dy_inner_270 rfl (by decide) ?_
                refine xw_aload0 dy_inner_273 ?_
                refine xw_aload0 dy_inner_274 ?_
                refine xw_getR dy_inner_275 fl_y_42 (xl_n hn (by decide)) rfl r_18_18 ?_
                refine xw_iload7 dy_inner_278 ?_
                refine xw_iald dy_inner_280 (xl_n hn (by decide)) rfl vc_2_8 cn_2 ?_
                refine xw_cW dy_inner_281 (lk_y_inner_281 (xl_n hn (by decide)) rfl) ok_y_pushWord (my_pushWord hl hn hJ_s24) ⟨Nat.le_of_ble_eq_true rfl, Nat.le_of_ble_eq_true rfl⟩ ?_
                refine xw_lw (fun s25 e_s25 => ?_)
                have hJ_s25 : yx_J s25 := by rw [e_s25]; exact (jy_pushWord hJ_s24)
                refine xw_iinc7 dy_inner_284 ic_2_m1 (Nat.le_of_ble_eq_true rfl) rfl ?_
                refine xw_goto dy_inner_287 rfl ?_
                refine xw_iload7 dy_inner_268 ?_
                refine xw_if_lt_f dy_inner_270 rfl (by decide) ?_
                refine xw_aload0 dy_inner_273 ?_
                refine xw_aload0 dy_inner_274 ?_
                refine xw_getR dy_inner_275 fl_y_42 (xl_n hn (by decide)) rfl r_18_18 ?_
                refine xw_iload7 dy_inner_278 ?_
                refine xw_iald dy_inner_280 (xl_n hn (by decide)) rfl vc_1_8 cn_1 ?_
                refine xw_cW dy_inner_281 (lk_y_inner_281 (xl_n hn (by decide)) rfl) ok_y_pushWord (my_pushWord hl hn hJ_s25) ⟨Nat.le_of_ble_eq_true rfl, Nat.le_of_ble_eq_true rfl⟩ ?_
                refine xw_lw (fun s26 e_s26 => ?_)
                have hJ_s26 : yx_J s26 := by rw [e_s26]; exact (jy_pushWord hJ_s25)
                refine xw_iinc7 dy_inner_284 ic_1_m1 (Nat.le_of_ble_eq_true rfl) rfl ?_
                refine xw_goto dy_inner_287 rfl ?_
                refine xw_iload7 dy_inner_268 ?_
                refine xw_if_lt_f dy_inner_270 rfl (by decide) ?_
                refine xw_aload0 dy_inner_273 ?_
                refine xw_aload0 dy_inner_274 ?_
                refine xw_getR dy_inner_275 fl_y_42 (xl_n hn (by decide)) rfl r_18_18 ?_
                refine xw_iload7 dy_inner_278 ?_
                refine xw_iald dy_inner_280 (xl_n hn (by decide)) rfl vc_0_8 cn_0 ?_
                refine xw_cW dy_inner_281 (lk_y_inner_281 (xl_n hn (by decide)) rfl) ok_y_pushWord (my_pushWord hl hn hJ_s26) ⟨Nat.le_of_ble_eq_true rfl, Nat.le_of_ble_eq_true rfl⟩ ?_
                refine xw_lw (fun s27 e_s27 => ?_)
                have hJ_s27 : yx_J s27 := by rw [e_s27]; exact (jy_pushWord hJ_s26)
                refine xw_iinc7 dy_inner_284 ic_0_m1 (Nat.le_of_ble_eq_true rfl) rfl ?_
                refine xw_goto dy_inner_287 rfl ?_
                refine xw_iload7 dy_inner_268 ?_
                refine xw_if_lt_t dy_inner_270 rfl (by decide) ?_
                exact xw_vret dy_inner_290 rfl
              · exact xw_vret dy_inner_209 rfl
      · exact xw_vret dy_inner_90 rfl
    · exact xw_vret dy_inner_57 rfl
  · refine xw_iconst dy_inner_26 ki_0 ?_
    refine xw_goto dy_inner_27 rfl ?_
    refine xw_istore4 dy_inner_48 (Nat.le_of_ble_eq_true rfl) rfl ?_
    refine xw_aload0 dy_inner_50 ?_
    refine xw_cVi dy_inner_51 (lk_y_inner_51 (xl_n hn (by decide)) rfl) ok_y_isRaised (my_isRaised hl hn) ⟨Nat.le_of_ble_eq_true rfl, Nat.le_of_ble_eq_true rfl⟩ ?_
    refine xw_if_eq_f dy_inner_54 rfl h2 ?_
    exact xw_vret dy_inner_57 rfl
theorem jy_inner_3 {a1 : Int32} {σ : xs_S} (hJ : yx_J σ) : yx_J (fy_inner_3 a1 σ) := by
  unfold fy_inner_3
  refine xj_wl (fun r1 e_r1 => ?_)
  have hJ_r1 : yx_J r1.2 := by rw [e_r1]; exact (jy_readWord hJ)
  refine xj_wf (fun h2 => ?_) (fun h2 => ?_)
  · refine xj_wl (fun r3 e_r3 => ?_)
    have hJ_r3 : yx_J r3.2 := by rw [e_r3]; exact (jy_readWord hJ_r1)
    refine xj_wf (fun h4 => ?_) (fun h4 => ?_)
    · refine xj_wl (fun s5 e_s5 => ?_)
      have hJ_s5 : yx_J s5 := by rw [e_s5]; exact (xj_i (fun _ => (jy_lookUp vc_1_2 hJ_r3)) (fun _ => (jy_raise hJ_r3)))
      refine xj_wf (fun h6 => ?_) (fun h6 => ?_)
      · refine xj_wl (fun s7 e_s7 => ?_)
        have hJ_s7 : yx_J s7 := by rw [e_s7]; exact (xj_i (fun _ => (xj_i (fun _ => (xj_i (fun _ => (xj_i (fun _ => (jy_raise hJ_s5)) (fun _ => hJ_s5))) (fun _ => (jy_raise hJ_s5)))) (fun _ => (jy_raise hJ_s5)))) (fun _ => (jy_raise hJ_s5)))
        refine xj_wf (fun h8 => ?_) (fun h8 => ?_)
        · refine xj_wl (fun r9 e_r9 => ?_)
          have hJ_r9 : yx_J r9.2 := by rw [e_r9]; exact (jy_segmentWord vc_1_3 hJ_s7)
          refine xj_wl (fun s10 e_s10 => ?_)
          have hJ_s10 : yx_J s10 := by rw [e_s10]; exact (yx_u hJ_r9 (by decide))
          refine xj_wf (fun h11 => ?_) (fun h11 => ?_)
          · refine xj_wl (fun r12 e_r12 => ?_)
            have hJ_r12 : yx_J r12.2 := by rw [e_r12]; exact (jy_segmentWord vc_1_3 hJ_s10)
            refine xj_wl (fun s13 e_s13 => ?_)
            have hJ_s13 : yx_J s13 := by rw [e_s13]; exact (yx_u hJ_r12 (by decide))
            refine xj_wf (fun h14 => ?_) (fun h14 => ?_)
            · refine xj_wl (fun r15 e_r15 => ?_)
              have hJ_r15 : yx_J r15.2 := by rw [e_r15]; exact (jy_segmentWord vc_1_3 hJ_s13)
              refine xj_wl (fun s16 e_s16 => ?_)
              have hJ_s16 : yx_J s16 := by rw [e_s16]; exact (yx_u hJ_r15 (by decide))
              refine xj_wf (fun h17 => ?_) (fun h17 => ?_)
              · refine xj_wl (fun v18 e_v18 => ?_)
                refine xj_wl (fun v19 e_v19 => ?_)
                refine xj_wl (fun s20 e_s20 => ?_)
                have hJ_s20 : yx_J s20 := by rw [e_s20]; exact (yx_u hJ_s16 (by decide))
                refine xj_wl (fun s21 e_s21 => ?_)
                have hJ_s21 : yx_J s21 := by rw [e_s21]; exact (jy_setSegment vc_1_3 vc_1_2 hJ_s20)
                refine xj_wl (fun s22 e_s22 => ?_)
                have hJ_s22 : yx_J s22 := by rw [e_s22]; exact (yx_u hJ_s21 (by decide))
                refine xj_wl (fun s23 e_s23 => ?_)
                have hJ_s23 : yx_J s23 := by rw [e_s23]; exact (jy_pushWord hJ_s22)
                refine xj_wl (fun s24 e_s24 => ?_)
                have hJ_s24 : yx_J s24 := by rw [e_s24]; exact (jy_pushWord hJ_s23)
                refine xj_wl (fun s25 e_s25 => ?_)
                have hJ_s25 : yx_J s25 := by rw [e_s25]; exact (jy_pushWord hJ_s24)
                refine xj_wl (fun s26 e_s26 => ?_)
                have hJ_s26 : yx_J s26 := by rw [e_s26]; exact (jy_pushWord hJ_s25)
                refine xj_wl (fun s27 e_s27 => ?_)
                have hJ_s27 : yx_J s27 := by rw [e_s27]; exact (jy_pushWord hJ_s26)
                exact hJ_s27
              · exact hJ_s16
            · exact hJ_s13
          · exact hJ_s10
        · exact hJ_s7
      · exact hJ_s5
    · exact hJ_r3
  · exact hJ_r1
def fy_inner_4 (a1 : Int32) (σ : xs_S) : xs_S := xl_l (fy_readWord (((σ 20 23) + ((4 : Int32) * a1)) + (2 : Int32)) (1 : Int32) σ) (fun r1 => (if (fy_isRaised r1.2) = 0 then xl_l (fy_readWord (((r1.2 20 23) + ((4 : Int32) * a1)) + (4 : Int32)) (1 : Int32) r1.2) (fun r3 => (if (fy_isRaised r3.2) = 0 then xl_l ((if (fy_isNull r3.1 r3.2) = 0 then (fy_lookUp r3.1 (1 : Int32) r3.2) else (fy_raise (10 : Int32) (0 : Int32) r3.2))) (fun s5 => (if (fy_isRaised s5) = 0 then xl_l ((if (s5 24 1) = (4 : Int32) then (if (s5 25 1) = a1 then (if (r3.1 &&& (3 : Int32)) = a1 then (if (s5 26 1) = 0 then (fy_raise (12 : Int32) (fy_codeOf r3.1 s5) s5) else s5) else (fy_raise (10 : Int32) (fy_codeOf r3.1 s5) s5)) else (fy_raise (10 : Int32) (fy_codeOf r3.1 s5) s5)) else (fy_raise (10 : Int32) (fy_codeOf r3.1 s5) s5))) (fun s7 => (if (fy_isRaised s7) = 0 then xl_l (fy_segmentWord (1 : Int32) (((s7 20 18) + ((2 : Int32) * (0 : Int32))) &&& (65535 : Int32)) s7) (fun r9 => xl_l ((xu_u r9.2 28 0 r9.1)) (fun s10 => (if (fy_isRaised s10) = 0 then xl_l (fy_segmentWord (1 : Int32) (((s10 20 18) + ((2 : Int32) * (1 : Int32))) &&& (65535 : Int32)) s10) (fun r12 => xl_l ((xu_u r12.2 28 1 r12.1)) (fun s13 => (if (fy_isRaised s13) = 0 then xl_l (fy_segmentWord (1 : Int32) (((s13 20 18) + ((2 : Int32) * (2 : Int32))) &&& (65535 : Int32)) s13) (fun r15 => xl_l ((xu_u r15.2 28 2 r15.1)) (fun s16 => (if (fy_isRaised s16) = 0 then xl_l (fy_segmentWord (1 : Int32) (((s16 20 18) + ((2 : Int32) * (3 : Int32))) &&& (65535 : Int32)) s16) (fun r18 => xl_l ((xu_u r18.2 28 3 r18.1)) (fun s19 => (if (fy_isRaised s19) = 0 then xl_l ((s19 20 1)) (fun v21 => xl_l ((s19 20 18)) (fun v22 => xl_l ((xu_u s19 20 21 a1)) (fun s23 => xl_l ((fy_setSegment (1 : Int32) r3.1 (1 : Int32) s23)) (fun s24 => xl_l ((xu_u s24 20 18 r1.1)) (fun s25 => xl_l ((fy_pushWord v21 s25)) (fun s26 => xl_l ((fy_pushWord v22 s26)) (fun s27 => xl_l ((fy_pushWord (s27 28 3) s27)) (fun s28 => xl_l ((fy_pushWord (s28 28 2) s28)) (fun s29 => xl_l ((fy_pushWord (s29 28 1) s29)) (fun s30 => xl_l ((fy_pushWord (s30 28 0) s30)) (fun s31 => s31))))))))))) else s19))) else s16))) else s13))) else s10))) else s7)) else s5)) else r3.2)) else r1.2))
set_option maxRecDepth 100000 in
set_option maxHeartbeats 4000000 in
theorem my_inner_4 {l : Launch} {N n u : Nat} {a1 : Int32} {σ : xs_S} (hl : l.stackTraces = false) (hn : 29 ≤ n) (hJ : yx_J σ) : xm_m (xk_k N) l ty_inner [.ref 18, .int a1, .int (4 : Int32)] (n, u, σ, xr_0) (xe_w n u (fy_inner_4 a1 σ)) := by
  refine xm_of hl ok_y_inner (Nat.le_of_ble_eq_true rfl) ?_
  show xw_w (xk_k N) l ty_inner 0 [some (.ref 18), some (.int a1), some (.int (4 : Int32)), none, none, none, none, none] [] (n, u, σ, xr_0) (xe_w n u (fy_inner_4 a1 σ))
  unfold fy_inner_4
  refine xw_aload0 dy_inner_0 ?_
  refine xw_aload0 dy_inner_1 ?_
  refine xw_getR dy_inner_2 fl_y_13 (xl_n hn (by decide)) rfl r_18_5 ?_
  refine xw_bipush dy_inner_5 kb_23 ?_
  refine xw_iald dy_inner_7 (xl_n hn (by decide)) rfl vc_23_26 cn_23 ?_
  refine xw_iconst dy_inner_8 ki_4 ?_
  refine xw_iload1 dy_inner_9 ?_
  refine xw_imul dy_inner_10 ?_
  refine xw_iadd dy_inner_11 ?_
  refine xw_iconst dy_inner_12 ki_2 ?_
  refine xw_iadd dy_inner_13 ?_
  refine xw_iconst dy_inner_14 ki_1 ?_
  refine xw_cPi dy_inner_15 (lk_y_inner_15 (xl_n hn (by decide)) rfl) ok_y_readWord (my_readWord hl hn hJ) ⟨Nat.le_of_ble_eq_true rfl, Nat.le_of_ble_eq_true rfl⟩ ?_
  refine xw_lpi (fun r1 e_r1 => ?_)
  have hJ_r1 : yx_J r1.2 := by rw [e_r1]; exact (jy_readWord hJ)
  refine xw_istore3 dy_inner_18 (Nat.le_of_ble_eq_true rfl) rfl ?_
  refine xw_aload0 dy_inner_19 ?_
  refine xw_cVi dy_inner_20 (lk_y_inner_20 (xl_n hn (by decide)) rfl) ok_y_isRaised (my_isRaised hl hn) ⟨Nat.le_of_ble_eq_true rfl, Nat.le_of_ble_eq_true rfl⟩ ?_
  refine xw_if_eq' dy_inner_23 rfl (fun h2 => ?_) (fun h2 => ?_)
  · refine xw_aload0 dy_inner_30 ?_
    refine xw_aload0 dy_inner_31 ?_
    refine xw_getR dy_inner_32 fl_y_13 (xl_n hn (by decide)) rfl r_18_5 ?_
    refine xw_bipush dy_inner_35 kb_23 ?_
    refine xw_iald dy_inner_37 (xl_n hn (by decide)) rfl vc_23_26 cn_23 ?_
    refine xw_iconst dy_inner_38 ki_4 ?_
    refine xw_iload1 dy_inner_39 ?_
    refine xw_imul dy_inner_40 ?_
    refine xw_iadd dy_inner_41 ?_
    refine xw_iconst dy_inner_42 ki_4 ?_
    refine xw_iadd dy_inner_43 ?_
    refine xw_iconst dy_inner_44 ki_1 ?_
    refine xw_cPi dy_inner_45 (lk_y_inner_45 (xl_n hn (by decide)) rfl) ok_y_readWord (my_readWord hl hn hJ_r1) ⟨Nat.le_of_ble_eq_true rfl, Nat.le_of_ble_eq_true rfl⟩ ?_
    refine xw_lpi (fun r3 e_r3 => ?_)
    have hJ_r3 : yx_J r3.2 := by rw [e_r3]; exact (jy_readWord hJ_r1)
    refine xw_istore4 dy_inner_48 (Nat.le_of_ble_eq_true rfl) rfl ?_
    refine xw_aload0 dy_inner_50 ?_
    refine xw_cVi dy_inner_51 (lk_y_inner_51 (xl_n hn (by decide)) rfl) ok_y_isRaised (my_isRaised hl hn) ⟨Nat.le_of_ble_eq_true rfl, Nat.le_of_ble_eq_true rfl⟩ ?_
    refine xw_if_eq' dy_inner_54 rfl (fun h4 => ?_) (fun h4 => ?_)
    · refine xw_iload4 dy_inner_58 ?_
      refine xw_cVi dy_inner_60 (lk_y_inner_60) ok_y_isNull (my_isNull hl hn) ⟨Nat.le_of_ble_eq_true rfl, Nat.le_of_ble_eq_true rfl⟩ ?_
      refine xw_if_eq_mw (J := 83) (a := (fy_lookUp r3.1 (1 : Int32) r3.2)) (b := (fy_raise (10 : Int32) (0 : Int32) r3.2)) dy_inner_63 rfl (fun _ E' k' => ?_) (fun _ E' k' => ?_) ?_
      · refine xw_aload0 dy_inner_76 ?_
        refine xw_iload4 dy_inner_77 ?_
        refine xw_iconst dy_inner_79 ki_1 ?_
        refine xw_cW dy_inner_80 (lk_y_inner_80 (xl_n hn (by decide)) rfl) ok_y_lookUp (my_lookUp hl hn vc_1_2 hJ_r3) ⟨Nat.le_of_ble_eq_true rfl, Nat.le_of_ble_eq_true rfl⟩ ?_
        exact k'
      · refine xw_aload0 dy_inner_66 ?_
        refine xw_bipush dy_inner_67 kb_10 ?_
        refine xw_iconst dy_inner_69 ki_0 ?_
        refine xw_cW dy_inner_70 (lk_y_inner_70 (xl_n hn (by decide)) rfl) ok_y_raise (my_raise hl hn) ⟨Nat.le_of_ble_eq_true rfl, Nat.le_of_ble_eq_true rfl⟩ ?_
        refine xw_goto dy_inner_73 rfl ?_
        exact k'
      refine xw_lw (fun s5 e_s5 => ?_)
      have hJ_s5 : yx_J s5 := by rw [e_s5]; exact (xj_i (fun _ => (jy_lookUp vc_1_2 hJ_r3)) (fun _ => (jy_raise hJ_r3)))
      refine xw_aload0 dy_inner_83 ?_
      refine xw_cVi dy_inner_84 (lk_y_inner_84 (xl_n hn (by decide)) rfl) ok_y_isRaised (my_isRaised hl hn) ⟨Nat.le_of_ble_eq_true rfl, Nat.le_of_ble_eq_true rfl⟩ ?_
      refine xw_if_eq' dy_inner_87 rfl (fun h6 => ?_) (fun h6 => ?_)
      · refine xw_aload0 dy_inner_91 ?_
        refine xw_getR dy_inner_92 fl_y_29 (xl_n hn (by decide)) rfl r_18_14 ?_
        refine xw_iconst dy_inner_95 ki_1 ?_
        refine xw_iald dy_inner_96 (xl_n hn (by decide)) rfl vc_1_2 cn_1 ?_
        refine xw_iconst dy_inner_97 ki_4 ?_
        refine xw_icmp_ne_mw (J := 153) (a := (if (s5 25 1) = a1 then (if (r3.1 &&& (3 : Int32)) = a1 then (if (s5 26 1) = 0 then (fy_raise (12 : Int32) (fy_codeOf r3.1 s5) s5) else s5) else (fy_raise (10 : Int32) (fy_codeOf r3.1 s5) s5)) else (fy_raise (10 : Int32) (fy_codeOf r3.1 s5) s5))) (b := (fy_raise (10 : Int32) (fy_codeOf r3.1 s5) s5)) dy_inner_98 rfl (fun _ E' k' => ?_) (fun _ E' k' => ?_) ?_
        · refine xw_aload0 dy_inner_119 ?_
          refine xw_bipush dy_inner_120 kb_10 ?_
          refine xw_iload4 dy_inner_122 ?_
          refine xw_cVi dy_inner_124 (lk_y_inner_124) ok_y_codeOf (my_codeOf hl hn) ⟨Nat.le_of_ble_eq_true rfl, Nat.le_of_ble_eq_true rfl⟩ ?_
          refine xw_cW dy_inner_127 (lk_y_inner_127 (xl_n hn (by decide)) rfl) ok_y_raise (my_raise hl hn) ⟨Nat.le_of_ble_eq_true rfl, Nat.le_of_ble_eq_true rfl⟩ ?_
          refine xw_goto dy_inner_130 rfl ?_
          exact k'
        · refine xw_aload0 dy_inner_101 ?_
          refine xw_getR dy_inner_102 fl_y_32 (xl_n hn (by decide)) rfl r_18_15 ?_
          refine xw_iconst dy_inner_105 ki_1 ?_
          refine xw_iald dy_inner_106 (xl_n hn (by decide)) rfl vc_1_2 cn_1 ?_
          refine xw_iload1 dy_inner_107 ?_
          refine xw_icmp_ne_mw (J := 153) (a := (if (r3.1 &&& (3 : Int32)) = a1 then (if (s5 26 1) = 0 then (fy_raise (12 : Int32) (fy_codeOf r3.1 s5) s5) else s5) else (fy_raise (10 : Int32) (fy_codeOf r3.1 s5) s5))) (b := (fy_raise (10 : Int32) (fy_codeOf r3.1 s5) s5)) dy_inner_108 rfl (fun _ E' k' => ?_) (fun _ E' k' => ?_) ?_
          · refine xw_aload0 dy_inner_119 ?_
            refine xw_bipush dy_inner_120 kb_10 ?_
            refine xw_iload4 dy_inner_122 ?_
            refine xw_cVi dy_inner_124 (lk_y_inner_124) ok_y_codeOf (my_codeOf hl hn) ⟨Nat.le_of_ble_eq_true rfl, Nat.le_of_ble_eq_true rfl⟩ ?_
            refine xw_cW dy_inner_127 (lk_y_inner_127 (xl_n hn (by decide)) rfl) ok_y_raise (my_raise hl hn) ⟨Nat.le_of_ble_eq_true rfl, Nat.le_of_ble_eq_true rfl⟩ ?_
            refine xw_goto dy_inner_130 rfl ?_
            exact k'
          · refine xw_iload4 dy_inner_111 ?_
            refine xw_iconst dy_inner_113 ki_3 ?_
            refine xw_iand dy_inner_114 ?_
            refine xw_iload1 dy_inner_115 ?_
            refine xw_icmp_eq_mw (J := 153) (a := (if (s5 26 1) = 0 then (fy_raise (12 : Int32) (fy_codeOf r3.1 s5) s5) else s5)) (b := (fy_raise (10 : Int32) (fy_codeOf r3.1 s5) s5)) dy_inner_116 rfl (fun _ E' k' => ?_) (fun _ E' k' => ?_) ?_
            · refine xw_aload0 dy_inner_133 ?_
              refine xw_getR dy_inner_134 fl_y_35 (xl_n hn (by decide)) rfl r_18_16 ?_
              refine xw_iconst dy_inner_137 ki_1 ?_
              refine xw_zald dy_inner_138 (xl_n hn (by decide)) rfl vc_1_2 cn_1 ?_
              refine xw_if_ne_mw (J := 153) (a := (fy_raise (12 : Int32) (fy_codeOf r3.1 s5) s5)) (b := s5) dy_inner_139 rfl (fun _ E' k' => ?_) (fun _ E' k' => ?_) ?_
              · exact k'
              · refine xw_aload0 dy_inner_142 ?_
                refine xw_bipush dy_inner_143 kb_12 ?_
                refine xw_iload4 dy_inner_145 ?_
                refine xw_cVi dy_inner_147 (lk_y_inner_147) ok_y_codeOf (my_codeOf hl hn) ⟨Nat.le_of_ble_eq_true rfl, Nat.le_of_ble_eq_true rfl⟩ ?_
                refine xw_cW dy_inner_150 (lk_y_inner_150 (xl_n hn (by decide)) rfl) ok_y_raise (my_raise hl hn) ⟨Nat.le_of_ble_eq_true rfl, Nat.le_of_ble_eq_true rfl⟩ ?_
                exact k'
              exact k'
            · refine xw_aload0 dy_inner_119 ?_
              refine xw_bipush dy_inner_120 kb_10 ?_
              refine xw_iload4 dy_inner_122 ?_
              refine xw_cVi dy_inner_124 (lk_y_inner_124) ok_y_codeOf (my_codeOf hl hn) ⟨Nat.le_of_ble_eq_true rfl, Nat.le_of_ble_eq_true rfl⟩ ?_
              refine xw_cW dy_inner_127 (lk_y_inner_127 (xl_n hn (by decide)) rfl) ok_y_raise (my_raise hl hn) ⟨Nat.le_of_ble_eq_true rfl, Nat.le_of_ble_eq_true rfl⟩ ?_
              refine xw_goto dy_inner_130 rfl ?_
              exact k'
            exact k'
          exact k'
        refine xw_lw (fun s7 e_s7 => ?_)
        have hJ_s7 : yx_J s7 := by rw [e_s7]; exact (xj_i (fun _ => (xj_i (fun _ => (xj_i (fun _ => (xj_i (fun _ => (jy_raise hJ_s5)) (fun _ => hJ_s5))) (fun _ => (jy_raise hJ_s5)))) (fun _ => (jy_raise hJ_s5)))) (fun _ => (jy_raise hJ_s5)))
        refine xw_iconst dy_inner_153 ki_0 ?_
        refine xw_istore5 dy_inner_154 (Nat.le_of_ble_eq_true rfl) rfl ?_
        refine xw_iload5 dy_inner_156 ?_
        refine xw_iload2 dy_inner_158 ?_
        refine xw_icmp_ge_f dy_inner_159 rfl (by decide) ?_
        refine xw_aload0 dy_inner_162 ?_
        refine xw_cVi dy_inner_163 (lk_y_inner_163 (xl_n hn (by decide)) rfl) ok_y_isRaised (my_isRaised hl hn) ⟨Nat.le_of_ble_eq_true rfl, Nat.le_of_ble_eq_true rfl⟩ ?_
        refine xw_if_ne' dy_inner_166 rfl (fun h8 => ?_) (fun h8 => ?_)
        · refine xw_aload0 dy_inner_202 ?_
          refine xw_cVi dy_inner_203 (lk_y_inner_203 (xl_n hn (by decide)) rfl) ok_y_isRaised (my_isRaised hl hn) ⟨Nat.le_of_ble_eq_true rfl, Nat.le_of_ble_eq_true rfl⟩ ?_
          refine xw_if_eq_f dy_inner_206 rfl h8 ?_
          exact xw_vret dy_inner_209 rfl
        · refine xw_aload0 dy_inner_169 ?_
          refine xw_getR dy_inner_170 fl_y_42 (xl_n hn (by decide)) rfl r_18_18 ?_
          refine xw_iload5 dy_inner_173 ?_
          refine xw_aload0 dy_inner_175 ?_
          refine xw_iconst dy_inner_176 ki_1 ?_
          refine xw_aload0 dy_inner_177 ?_
          refine xw_getR dy_inner_178 fl_y_13 (xl_n hn (by decide)) rfl r_18_5 ?_
          refine xw_bipush dy_inner_181 kb_18 ?_
          refine xw_iald dy_inner_183 (xl_n hn (by decide)) rfl vc_18_26 cn_18 ?_
          refine xw_iconst dy_inner_184 ki_2 ?_
          refine xw_iload5 dy_inner_185 ?_
          refine xw_imul dy_inner_187 ?_
          refine xw_iadd dy_inner_188 ?_
          refine xw_ldc dy_inner_189 kc_y_97 ?_
          refine xw_iand dy_inner_191 ?_
          refine xw_cPi dy_inner_192 (lk_y_inner_192 (xl_n hn (by decide)) rfl) ok_y_segmentWord (my_segmentWord hl hn vc_1_3 hJ_s7) ⟨Nat.le_of_ble_eq_true rfl, Nat.le_of_ble_eq_true rfl⟩ ?_
          refine xw_lpi (fun r9 e_r9 => ?_)
          have hJ_r9 : yx_J r9.2 := by rw [e_r9]; exact (jy_segmentWord vc_1_3 hJ_s7)
          refine xw_iast dy_inner_195 (by decide) (xl_n hn (by decide)) rfl vc_0_8 cn_0 ?_
          refine xw_lw (fun s10 e_s10 => ?_)
          have hJ_s10 : yx_J s10 := by rw [e_s10]; exact (yx_u hJ_r9 (by decide))
          refine xw_iinc5 dy_inner_196 ic_0_1 (Nat.le_of_ble_eq_true rfl) rfl ?_
          refine xw_goto dy_inner_199 rfl ?_
          refine xw_iload5 dy_inner_156 ?_
          refine xw_iload2 dy_inner_158 ?_
          refine xw_icmp_ge_f dy_inner_159 rfl (by decide) ?_
          refine xw_aload0 dy_inner_162 ?_
          refine xw_cVi dy_inner_163 (lk_y_inner_163 (xl_n hn (by decide)) rfl) ok_y_isRaised (my_isRaised hl hn) ⟨Nat.le_of_ble_eq_true rfl, Nat.le_of_ble_eq_true rfl⟩ ?_
          refine xw_if_ne' dy_inner_166 rfl (fun h11 => ?_) (fun h11 => ?_)
          · refine xw_aload0 dy_inner_202 ?_
            refine xw_cVi dy_inner_203 (lk_y_inner_203 (xl_n hn (by decide)) rfl) ok_y_isRaised (my_isRaised hl hn) ⟨Nat.le_of_ble_eq_true rfl, Nat.le_of_ble_eq_true rfl⟩ ?_
            refine xw_if_eq_f dy_inner_206 rfl h11 ?_
            exact xw_vret dy_inner_209 rfl
          · refine xw_aload0 dy_inner_169 ?_
            refine xw_getR dy_inner_170 fl_y_42 (xl_n hn (by decide)) rfl r_18_18 ?_
            refine xw_iload5 dy_inner_173 ?_
            refine xw_aload0 dy_inner_175 ?_
            refine xw_iconst dy_inner_176 ki_1 ?_
            refine xw_aload0 dy_inner_177 ?_
            refine xw_getR dy_inner_178 fl_y_13 (xl_n hn (by decide)) rfl r_18_5 ?_
            refine xw_bipush dy_inner_181 kb_18 ?_
            refine xw_iald dy_inner_183 (xl_n hn (by decide)) rfl vc_18_26 cn_18 ?_
            refine xw_iconst dy_inner_184 ki_2 ?_
            refine xw_iload5 dy_inner_185 ?_
            refine xw_imul dy_inner_187 ?_
            refine xw_iadd dy_inner_188 ?_
            refine xw_ldc dy_inner_189 kc_y_97 ?_
            refine xw_iand dy_inner_191 ?_
            refine xw_cPi dy_inner_192 (lk_y_inner_192 (xl_n hn (by decide)) rfl) ok_y_segmentWord (my_segmentWord hl hn vc_1_3 hJ_s10) ⟨Nat.le_of_ble_eq_true rfl, Nat.le_of_ble_eq_true rfl⟩ ?_
            refine xw_lpi (fun r12 e_r12 => ?_)
            have hJ_r12 : yx_J r12.2 := by rw [e_r12]; exact (jy_segmentWord vc_1_3 hJ_s10)
            refine xw_iast dy_inner_195 (by decide) (xl_n hn (by decide)) rfl vc_1_8 cn_1 ?_
            refine xw_lw (fun s13 e_s13 => ?_)
            have hJ_s13 : yx_J s13 := by rw [e_s13]; exact (yx_u hJ_r12 (by decide))
            refine xw_iinc5 dy_inner_196 ic_1_1 (Nat.le_of_ble_eq_true rfl) rfl ?_
            refine xw_goto dy_inner_199 rfl ?_
            refine xw_iload5 dy_inner_156 ?_
            refine xw_iload2 dy_inner_158 ?_
            refine xw_icmp_ge_f dy_inner_159 rfl (by decide) ?_
            refine xw_aload0 dy_inner_162 ?_
            refine xw_cVi dy_inner_163 (lk_y_inner_163 (xl_n hn (by decide)) rfl) ok_y_isRaised (my_isRaised hl hn) ⟨Nat.le_of_ble_eq_true rfl, Nat.le_of_ble_eq_true rfl⟩ ?_
            refine xw_if_ne' dy_inner_166 rfl (fun h14 => ?_) (fun h14 => ?_)
            · refine xw_aload0 dy_inner_202 ?_
              refine xw_cVi dy_inner_203 (lk_y_inner_203 (xl_n hn (by decide)) rfl) ok_y_isRaised (my_isRaised hl hn) ⟨Nat.le_of_ble_eq_true rfl, Nat.le_of_ble_eq_true rfl⟩ ?_
              refine xw_if_eq_f dy_inner_206 rfl h14 ?_
              exact xw_vret dy_inner_209 rfl
            · refine xw_aload0 dy_inner_169 ?_
              refine xw_getR dy_inner_170 fl_y_42 (xl_n hn (by decide)) rfl r_18_18 ?_
              refine xw_iload5 dy_inner_173 ?_
              refine xw_aload0 dy_inner_175 ?_
              refine xw_iconst dy_inner_176 ki_1 ?_
              refine xw_aload0 dy_inner_177 ?_
              refine xw_getR dy_inner_178 fl_y_13 (xl_n hn (by decide)) rfl r_18_5 ?_
              refine xw_bipush dy_inner_181 kb_18 ?_
              refine xw_iald dy_inner_183 (xl_n hn (by decide)) rfl vc_18_26 cn_18 ?_
              refine xw_iconst dy_inner_184 ki_2 ?_
              refine xw_iload5 dy_inner_185 ?_
              refine xw_imul dy_inner_187 ?_
              refine xw_iadd dy_inner_188 ?_
              refine xw_ldc dy_inner_189 kc_y_97 ?_
              refine xw_iand dy_inner_191 ?_
              refine xw_cPi dy_inner_192 (lk_y_inner_192 (xl_n hn (by decide)) rfl) ok_y_segmentWord (my_segmentWord hl hn vc_1_3 hJ_s13) ⟨Nat.le_of_ble_eq_true rfl, Nat.le_of_ble_eq_true rfl⟩ ?_
              refine xw_lpi (fun r15 e_r15 => ?_)
              have hJ_r15 : yx_J r15.2 := by rw [e_r15]; exact (jy_segmentWord vc_1_3 hJ_s13)
              refine xw_iast dy_inner_195 (by decide) (xl_n hn (by decide)) rfl vc_2_8 cn_2 ?_
              refine xw_lw (fun s16 e_s16 => ?_)
              have hJ_s16 : yx_J s16 := by rw [e_s16]; exact (yx_u hJ_r15 (by decide))
              refine xw_iinc5 dy_inner_196 ic_2_1 (Nat.le_of_ble_eq_true rfl) rfl ?_
              refine xw_goto dy_inner_199 rfl ?_
              refine xw_iload5 dy_inner_156 ?_
              refine xw_iload2 dy_inner_158 ?_
              refine xw_icmp_ge_f dy_inner_159 rfl (by decide) ?_
              refine xw_aload0 dy_inner_162 ?_
              refine xw_cVi dy_inner_163 (lk_y_inner_163 (xl_n hn (by decide)) rfl) ok_y_isRaised (my_isRaised hl hn) ⟨Nat.le_of_ble_eq_true rfl, Nat.le_of_ble_eq_true rfl⟩ ?_
              refine xw_if_ne' dy_inner_166 rfl (fun h17 => ?_) (fun h17 => ?_)
              · refine xw_aload0 dy_inner_202 ?_
                refine xw_cVi dy_inner_203 (lk_y_inner_203 (xl_n hn (by decide)) rfl) ok_y_isRaised (my_isRaised hl hn) ⟨Nat.le_of_ble_eq_true rfl, Nat.le_of_ble_eq_true rfl⟩ ?_
                refine xw_if_eq_f dy_inner_206 rfl h17 ?_
                exact xw_vret dy_inner_209 rfl
              · refine xw_aload0 dy_inner_169 ?_
                refine xw_getR dy_inner_170 fl_y_42 (xl_n hn (by decide)) rfl r_18_18 ?_
                refine xw_iload5 dy_inner_173 ?_
                refine xw_aload0 dy_inner_175 ?_
                refine xw_iconst dy_inner_176 ki_1 ?_
                refine xw_aload0 dy_inner_177 ?_
                refine xw_getR dy_inner_178 fl_y_13 (xl_n hn (by decide)) rfl r_18_5 ?_
                refine xw_bipush dy_inner_181 kb_18 ?_
                refine xw_iald dy_inner_183 (xl_n hn (by decide)) rfl vc_18_26 cn_18 ?_
                refine xw_iconst dy_inner_184 ki_2 ?_
                refine xw_iload5 dy_inner_185 ?_
                refine xw_imul dy_inner_187 ?_
                refine xw_iadd dy_inner_188 ?_
                refine xw_ldc dy_inner_189 kc_y_97 ?_
                refine xw_iand dy_inner_191 ?_
                refine xw_cPi dy_inner_192 (lk_y_inner_192 (xl_n hn (by decide)) rfl) ok_y_segmentWord (my_segmentWord hl hn vc_1_3 hJ_s16) ⟨Nat.le_of_ble_eq_true rfl, Nat.le_of_ble_eq_true rfl⟩ ?_
                refine xw_lpi (fun r18 e_r18 => ?_)
                have hJ_r18 : yx_J r18.2 := by rw [e_r18]; exact (jy_segmentWord vc_1_3 hJ_s16)
                refine xw_iast dy_inner_195 (by decide) (xl_n hn (by decide)) rfl vc_3_8 cn_3 ?_
                refine xw_lw (fun s19 e_s19 => ?_)
                have hJ_s19 : yx_J s19 := by rw [e_s19]; exact (yx_u hJ_r18 (by decide))
                refine xw_iinc5 dy_inner_196 ic_3_1 (Nat.le_of_ble_eq_true rfl) rfl ?_
                refine xw_goto dy_inner_199 rfl ?_
                refine xw_iload5 dy_inner_156 ?_
                refine xw_iload2 dy_inner_158 ?_
                refine xw_icmp_ge_t dy_inner_159 rfl (by decide) ?_
                refine xw_aload0 dy_inner_202 ?_
                refine xw_cVi dy_inner_203 (lk_y_inner_203 (xl_n hn (by decide)) rfl) ok_y_isRaised (my_isRaised hl hn) ⟨Nat.le_of_ble_eq_true rfl, Nat.le_of_ble_eq_true rfl⟩ ?_
                refine xw_if_eq' dy_inner_206 rfl (fun h20 => ?_) (fun h20 => ?_)
                · refine xw_aload0 dy_inner_210 ?_
                  refine xw_getR dy_inner_211 fl_y_13 (xl_n hn (by decide)) rfl r_18_5 ?_
                  refine xw_iconst dy_inner_214 ki_1 ?_
                  refine xw_iald dy_inner_215 (xl_n hn (by decide)) rfl vc_1_26 cn_1 ?_
                  refine xw_li (fun v21 e_v21 => ?_)
                  refine xw_istore5 dy_inner_216 (Nat.le_of_ble_eq_true rfl) rfl ?_
                  refine xw_aload0 dy_inner_218 ?_
                  refine xw_getR dy_inner_219 fl_y_13 (xl_n hn (by decide)) rfl r_18_5 ?_
                  refine xw_bipush dy_inner_222 kb_18 ?_
                  refine xw_iald dy_inner_224 (xl_n hn (by decide)) rfl vc_18_26 cn_18 ?_
                  refine xw_li (fun v22 e_v22 => ?_)
                  refine xw_istore6 dy_inner_225 (Nat.le_of_ble_eq_true rfl) rfl ?_
                  refine xw_aload0 dy_inner_227 ?_
                  refine xw_getR dy_inner_228 fl_y_13 (xl_n hn (by decide)) rfl r_18_5 ?_
                  refine xw_bipush dy_inner_231 kb_21 ?_
                  refine xw_iload1 dy_inner_233 ?_
                  refine xw_iast dy_inner_234 (by decide) (xl_n hn (by decide)) rfl vc_21_26 cn_21 ?_
                  refine xw_lw (fun s23 e_s23 => ?_)
                  have hJ_s23 : yx_J s23 := by rw [e_s23]; exact (yx_u hJ_s19 (by decide))
                  refine xw_aload0 dy_inner_235 ?_
                  refine xw_iconst dy_inner_236 ki_1 ?_
                  refine xw_iload4 dy_inner_237 ?_
                  refine xw_iconst dy_inner_239 ki_1 ?_
                  refine xw_cW dy_inner_240 (lk_y_inner_240 (xl_n hn (by decide)) rfl) ok_y_setSegment (my_setSegment hl hn vc_1_3 vc_1_2) ⟨Nat.le_of_ble_eq_true rfl, Nat.le_of_ble_eq_true rfl⟩ ?_
                  refine xw_lw (fun s24 e_s24 => ?_)
                  have hJ_s24 : yx_J s24 := by rw [e_s24]; exact (jy_setSegment vc_1_3 vc_1_2 hJ_s23)
                  refine xw_aload0 dy_inner_243 ?_
                  refine xw_getR dy_inner_244 fl_y_13 (xl_n hn (by decide)) rfl r_18_5 ?_
                  refine xw_bipush dy_inner_247 kb_18 ?_
                  refine xw_iload3 dy_inner_249 ?_
                  refine xw_iast dy_inner_250 (by decide) (xl_n hn (by decide)) rfl vc_18_26 cn_18 ?_
                  refine xw_lw (fun s25 e_s25 => ?_)
                  have hJ_s25 : yx_J s25 := by rw [e_s25]; exact (yx_u hJ_s24 (by decide))
                  refine xw_aload0 dy_inner_251 ?_
                  refine xw_iload5 dy_inner_252 ?_
                  refine xw_cW dy_inner_254 (lk_y_inner_254 (xl_n hn (by decide)) rfl) ok_y_pushWord (my_pushWord hl hn hJ_s25) ⟨Nat.le_of_ble_eq_true rfl, Nat.le_of_ble_eq_true rfl⟩ ?_
                  refine xw_lw (fun s26 e_s26 => ?_)
                  have hJ_s26 : yx_J s26 := by rw [e_s26]; exact (jy_pushWord hJ_s25)
                  refine xw_aload0 dy_inner_257 ?_
                  refine xw_iload6 dy_inner_258 ?_
                  refine xw_cW dy_inner_260 (lk_y_inner_260 (xl_n hn (by decide)) rfl) ok_y_pushWord (my_pushWord hl hn hJ_s26) ⟨Nat.le_of_ble_eq_true rfl, Nat.le_of_ble_eq_true rfl⟩ ?_
                  refine xw_lw (fun s27 e_s27 => ?_)
                  have hJ_s27 : yx_J s27 := by rw [e_s27]; exact (jy_pushWord hJ_s26)
                  refine xw_iload2 dy_inner_263 ?_
                  refine xw_iconst dy_inner_264 ki_1 ?_
                  refine xw_isubc dy_inner_265 sb_4_1 ?_
                  refine xw_istore7 dy_inner_266 (Nat.le_of_ble_eq_true rfl) rfl ?_
                  refine xw_iload7 dy_inner_268 ?_
                  refine xw_if_lt_f dy_inner_270 rfl (by decide) ?_
                  refine xw_aload0 dy_inner_273 ?_
                  refine xw_aload0 dy_inner_274 ?_
                  refine xw_getR dy_inner_275 fl_y_42 (xl_n hn (by decide)) rfl r_18_18 ?_
                  refine xw_iload7 dy_inner_278 ?_
                  refine xw_iald dy_inner_280 (xl_n hn (by decide)) rfl vc_3_8 cn_3 ?_
                  refine xw_cW dy_inner_281 (lk_y_inner_281 (xl_n hn (by decide)) rfl) ok_y_pushWord (my_pushWord hl hn hJ_s27) ⟨Nat.le_of_ble_eq_true rfl, Nat.le_of_ble_eq_true rfl⟩ ?_
                  refine xw_lw (fun s28 e_s28 => ?_)
                  have hJ_s28 : yx_J s28 := by rw [e_s28]; exact (jy_pushWord hJ_s27)
                  refine xw_iinc7 dy_inner_284 ic_3_m1 (Nat.le_of_ble_eq_true rfl) rfl ?_
                  refine xw_goto dy_inner_287 rfl ?_
                  refine xw_iload7 dy_inner_268 ?_
                  refine xw_if_lt_f dy_inner_270 rfl (by decide) ?_
                  refine xw_aload0 dy_inner_273 ?_
                  refine xw_aload0 dy_inner_274 ?_
                  refine xw_getR dy_inner_275 fl_y_42 (xl_n hn (by decide)) rfl r_18_18 ?_
                  refine xw_iload7 dy_inner_278 ?_
                  refine xw_iald dy_inner_280 (xl_n hn (by decide)) rfl vc_2_8 cn_2 ?_
                  refine xw_cW dy_inner_281 (lk_y_inner_281 (xl_n hn (by decide)) rfl) ok_y_pushWord (my_pushWord hl hn hJ_s28) ⟨Nat.le_of_ble_eq_true rfl, Nat.le_of_ble_eq_true rfl⟩ ?_
                  refine xw_lw (fun s29 e_s29 => ?_)
                  have hJ_s29 : yx_J s29 := by rw [e_s29]; exact (jy_pushWord hJ_s28)
                  refine xw_iinc7 dy_inner_284 ic_2_m1 (Nat.le_of_ble_eq_true rfl) rfl ?_
                  refine xw_goto dy_inner_287 rfl ?_
                  refine xw_iload7 dy_inner_268 ?_
                  refine xw_if_lt_f dy_inner_270 rfl (by decide) ?_
                  refine xw_aload0 dy_inner_273 ?_
                  refine xw_aload0 dy_inner_274 ?_
                  refine xw_getR dy_inner_275 fl_y_42 (xl_n hn (by decide)) rfl r_18_18 ?_
                  refine xw_iload7 dy_inner_278 ?_
                  refine xw_iald dy_inner_280 (xl_n hn (by decide)) rfl vc_1_8 cn_1 ?_
                  refine xw_cW dy_inner_281 (lk_y_inner_281 (xl_n hn (by decide)) rfl) ok_y_pushWord (my_pushWord hl hn hJ_s29) ⟨Nat.le_of_ble_eq_true rfl, Nat.le_of_ble_eq_true rfl⟩ ?_
                  refine xw_lw (fun s30 e_s30 => ?_)
                  have hJ_s30 : yx_J s30 := by rw [e_s30]; exact (jy_pushWord hJ_s29)
                  refine xw_iinc7 dy_inner_284 ic_1_m1 (Nat.le_of_ble_eq_true rfl) rfl ?_
                  refine xw_goto dy_inner_287 rfl ?_
                  refine xw_iload7 dy_inner_268 ?_
                  refine xw_if_lt_f dy_inner_270 rfl (by decide) ?_
                  refine xw_aload0 dy_inner_273 ?_
                  refine xw_aload0 dy_inner_274 ?_
                  refine xw_getR dy_inner_275 fl_y_42 (xl_n hn (by decide)) rfl r_18_18 ?_
                  refine xw_iload7 dy_inner_278 ?_
                  refine xw_iald dy_inner_280 (xl_n hn (by decide)) rfl vc_0_8 cn_0 ?_
                  refine xw_cW dy_inner_281 (lk_y_inner_281 (xl_n hn (by decide)) rfl) ok_y_pushWord (my_pushWord hl hn hJ_s30) ⟨Nat.le_of_ble_eq_true rfl, Nat.le_of_ble_eq_true rfl⟩ ?_
                  refine xw_lw (fun s31 e_s31 => ?_)
                  have hJ_s31 : yx_J s31 := by rw [e_s31]; exact (jy_pushWord hJ_s30)
                  refine xw_iinc7 dy_inner_284 ic_0_m1 (Nat.le_of_ble_eq_true rfl) rfl ?_
                  refine xw_goto dy_inner_287 rfl ?_
                  refine xw_iload7 dy_inner_268 ?_
                  refine xw_if_lt_t dy_inner_270 rfl (by decide) ?_
                  exact xw_vret dy_inner_290 rfl
                · exact xw_vret dy_inner_209 rfl
      · exact xw_vret dy_inner_90 rfl
    · exact xw_vret dy_inner_57 rfl
  · refine xw_iconst dy_inner_26 ki_0 ?_
    refine xw_goto dy_inner_27 rfl ?_
    refine xw_istore4 dy_inner_48 (Nat.le_of_ble_eq_true rfl) rfl ?_
    refine xw_aload0 dy_inner_50 ?_
    refine xw_cVi dy_inner_51 (lk_y_inner_51 (xl_n hn (by decide)) rfl) ok_y_isRaised (my_isRaised hl hn) ⟨Nat.le_of_ble_eq_true rfl, Nat.le_of_ble_eq_true rfl⟩ ?_
    refine xw_if_eq_f dy_inner_54 rfl h2 ?_
    exact xw_vret dy_inner_57 rfl
theorem jy_inner_4 {a1 : Int32} {σ : xs_S} (hJ : yx_J σ) : yx_J (fy_inner_4 a1 σ) := by
  unfold fy_inner_4
  refine xj_wl (fun r1 e_r1 => ?_)
  have hJ_r1 : yx_J r1.2 := by rw [e_r1]; exact (jy_readWord hJ)
  refine xj_wf (fun h2 => ?_) (fun h2 => ?_)
  · refine xj_wl (fun r3 e_r3 => ?_)
    have hJ_r3 : yx_J r3.2 := by rw [e_r3]; exact (jy_readWord hJ_r1)
    refine xj_wf (fun h4 => ?_) (fun h4 => ?_)
    · refine xj_wl (fun s5 e_s5 => ?_)
      have hJ_s5 : yx_J s5 := by rw [e_s5]; exact (xj_i (fun _ => (jy_lookUp vc_1_2 hJ_r3)) (fun _ => (jy_raise hJ_r3)))
      refine xj_wf (fun h6 => ?_) (fun h6 => ?_)
      · refine xj_wl (fun s7 e_s7 => ?_)
        have hJ_s7 : yx_J s7 := by rw [e_s7]; exact (xj_i (fun _ => (xj_i (fun _ => (xj_i (fun _ => (xj_i (fun _ => (jy_raise hJ_s5)) (fun _ => hJ_s5))) (fun _ => (jy_raise hJ_s5)))) (fun _ => (jy_raise hJ_s5)))) (fun _ => (jy_raise hJ_s5)))
        refine xj_wf (fun h8 => ?_) (fun h8 => ?_)
        · refine xj_wl (fun r9 e_r9 => ?_)
          have hJ_r9 : yx_J r9.2 := by rw [e_r9]; exact (jy_segmentWord vc_1_3 hJ_s7)
          refine xj_wl (fun s10 e_s10 => ?_)
          have hJ_s10 : yx_J s10 := by rw [e_s10]; exact (yx_u hJ_r9 (by decide))
          refine xj_wf (fun h11 => ?_) (fun h11 => ?_)
          · refine xj_wl (fun r12 e_r12 => ?_)
            have hJ_r12 : yx_J r12.2 := by rw [e_r12]; exact (jy_segmentWord vc_1_3 hJ_s10)
            refine xj_wl (fun s13 e_s13 => ?_)
            have hJ_s13 : yx_J s13 := by rw [e_s13]; exact (yx_u hJ_r12 (by decide))
            refine xj_wf (fun h14 => ?_) (fun h14 => ?_)
            · refine xj_wl (fun r15 e_r15 => ?_)
              have hJ_r15 : yx_J r15.2 := by rw [e_r15]; exact (jy_segmentWord vc_1_3 hJ_s13)
              refine xj_wl (fun s16 e_s16 => ?_)
              have hJ_s16 : yx_J s16 := by rw [e_s16]; exact (yx_u hJ_r15 (by decide))
              refine xj_wf (fun h17 => ?_) (fun h17 => ?_)
              · refine xj_wl (fun r18 e_r18 => ?_)
                have hJ_r18 : yx_J r18.2 := by rw [e_r18]; exact (jy_segmentWord vc_1_3 hJ_s16)
                refine xj_wl (fun s19 e_s19 => ?_)
                have hJ_s19 : yx_J s19 := by rw [e_s19]; exact (yx_u hJ_r18 (by decide))
                refine xj_wf (fun h20 => ?_) (fun h20 => ?_)
                · refine xj_wl (fun v21 e_v21 => ?_)
                  refine xj_wl (fun v22 e_v22 => ?_)
                  refine xj_wl (fun s23 e_s23 => ?_)
                  have hJ_s23 : yx_J s23 := by rw [e_s23]; exact (yx_u hJ_s19 (by decide))
                  refine xj_wl (fun s24 e_s24 => ?_)
                  have hJ_s24 : yx_J s24 := by rw [e_s24]; exact (jy_setSegment vc_1_3 vc_1_2 hJ_s23)
                  refine xj_wl (fun s25 e_s25 => ?_)
                  have hJ_s25 : yx_J s25 := by rw [e_s25]; exact (yx_u hJ_s24 (by decide))
                  refine xj_wl (fun s26 e_s26 => ?_)
                  have hJ_s26 : yx_J s26 := by rw [e_s26]; exact (jy_pushWord hJ_s25)
                  refine xj_wl (fun s27 e_s27 => ?_)
                  have hJ_s27 : yx_J s27 := by rw [e_s27]; exact (jy_pushWord hJ_s26)
                  refine xj_wl (fun s28 e_s28 => ?_)
                  have hJ_s28 : yx_J s28 := by rw [e_s28]; exact (jy_pushWord hJ_s27)
                  refine xj_wl (fun s29 e_s29 => ?_)
                  have hJ_s29 : yx_J s29 := by rw [e_s29]; exact (jy_pushWord hJ_s28)
                  refine xj_wl (fun s30 e_s30 => ?_)
                  have hJ_s30 : yx_J s30 := by rw [e_s30]; exact (jy_pushWord hJ_s29)
                  refine xj_wl (fun s31 e_s31 => ?_)
                  have hJ_s31 : yx_J s31 := by rw [e_s31]; exact (jy_pushWord hJ_s30)
                  exact hJ_s31
                · exact hJ_s19
              · exact hJ_s16
            · exact hJ_s13
          · exact hJ_s10
        · exact hJ_s7
      · exact hJ_s5
    · exact hJ_r3
  · exact hJ_r1
def fy_inner_5 (a1 : Int32) (σ : xs_S) : xs_S := xl_l (fy_readWord (((σ 20 23) + ((4 : Int32) * a1)) + (2 : Int32)) (1 : Int32) σ) (fun r1 => (if (fy_isRaised r1.2) = 0 then xl_l (fy_readWord (((r1.2 20 23) + ((4 : Int32) * a1)) + (4 : Int32)) (1 : Int32) r1.2) (fun r3 => (if (fy_isRaised r3.2) = 0 then xl_l ((if (fy_isNull r3.1 r3.2) = 0 then (fy_lookUp r3.1 (1 : Int32) r3.2) else (fy_raise (10 : Int32) (0 : Int32) r3.2))) (fun s5 => (if (fy_isRaised s5) = 0 then xl_l ((if (s5 24 1) = (4 : Int32) then (if (s5 25 1) = a1 then (if (r3.1 &&& (3 : Int32)) = a1 then (if (s5 26 1) = 0 then (fy_raise (12 : Int32) (fy_codeOf r3.1 s5) s5) else s5) else (fy_raise (10 : Int32) (fy_codeOf r3.1 s5) s5)) else (fy_raise (10 : Int32) (fy_codeOf r3.1 s5) s5)) else (fy_raise (10 : Int32) (fy_codeOf r3.1 s5) s5))) (fun s7 => (if (fy_isRaised s7) = 0 then xl_l (fy_segmentWord (1 : Int32) (((s7 20 18) + ((2 : Int32) * (0 : Int32))) &&& (65535 : Int32)) s7) (fun r9 => xl_l ((xu_u r9.2 28 0 r9.1)) (fun s10 => (if (fy_isRaised s10) = 0 then xl_l (fy_segmentWord (1 : Int32) (((s10 20 18) + ((2 : Int32) * (1 : Int32))) &&& (65535 : Int32)) s10) (fun r12 => xl_l ((xu_u r12.2 28 1 r12.1)) (fun s13 => (if (fy_isRaised s13) = 0 then xl_l (fy_segmentWord (1 : Int32) (((s13 20 18) + ((2 : Int32) * (2 : Int32))) &&& (65535 : Int32)) s13) (fun r15 => xl_l ((xu_u r15.2 28 2 r15.1)) (fun s16 => (if (fy_isRaised s16) = 0 then xl_l (fy_segmentWord (1 : Int32) (((s16 20 18) + ((2 : Int32) * (3 : Int32))) &&& (65535 : Int32)) s16) (fun r18 => xl_l ((xu_u r18.2 28 3 r18.1)) (fun s19 => (if (fy_isRaised s19) = 0 then xl_l (fy_segmentWord (1 : Int32) (((s19 20 18) + ((2 : Int32) * (4 : Int32))) &&& (65535 : Int32)) s19) (fun r21 => xl_l ((xu_u r21.2 28 4 r21.1)) (fun s22 => (if (fy_isRaised s22) = 0 then xl_l ((s22 20 1)) (fun v24 => xl_l ((s22 20 18)) (fun v25 => xl_l ((xu_u s22 20 21 a1)) (fun s26 => xl_l ((fy_setSegment (1 : Int32) r3.1 (1 : Int32) s26)) (fun s27 => xl_l ((xu_u s27 20 18 r1.1)) (fun s28 => xl_l ((fy_pushWord v24 s28)) (fun s29 => xl_l ((fy_pushWord v25 s29)) (fun s30 => xl_l ((fy_pushWord (s30 28 4) s30)) (fun s31 => xl_l ((fy_pushWord (s31 28 3) s31)) (fun s32 => xl_l ((fy_pushWord (s32 28 2) s32)) (fun s33 => xl_l ((fy_pushWord (s33 28 1) s33)) (fun s34 => xl_l ((fy_pushWord (s34 28 0) s34)) (fun s35 => s35)))))))))))) else s22))) else s19))) else s16))) else s13))) else s10))) else s7)) else s5)) else r3.2)) else r1.2))
set_option maxRecDepth 100000 in
set_option maxHeartbeats 4000000 in
theorem my_inner_5 {l : Launch} {N n u : Nat} {a1 : Int32} {σ : xs_S} (hl : l.stackTraces = false) (hn : 29 ≤ n) (hJ : yx_J σ) : xm_m (xk_k N) l ty_inner [.ref 18, .int a1, .int (5 : Int32)] (n, u, σ, xr_0) (xe_w n u (fy_inner_5 a1 σ)) := by
  refine xm_of hl ok_y_inner (Nat.le_of_ble_eq_true rfl) ?_
  show xw_w (xk_k N) l ty_inner 0 [some (.ref 18), some (.int a1), some (.int (5 : Int32)), none, none, none, none, none] [] (n, u, σ, xr_0) (xe_w n u (fy_inner_5 a1 σ))
  unfold fy_inner_5
  refine xw_aload0 dy_inner_0 ?_
  refine xw_aload0 dy_inner_1 ?_
  refine xw_getR dy_inner_2 fl_y_13 (xl_n hn (by decide)) rfl r_18_5 ?_
  refine xw_bipush dy_inner_5 kb_23 ?_
  refine xw_iald dy_inner_7 (xl_n hn (by decide)) rfl vc_23_26 cn_23 ?_
  refine xw_iconst dy_inner_8 ki_4 ?_
  refine xw_iload1 dy_inner_9 ?_
  refine xw_imul dy_inner_10 ?_
  refine xw_iadd dy_inner_11 ?_
  refine xw_iconst dy_inner_12 ki_2 ?_
  refine xw_iadd dy_inner_13 ?_
  refine xw_iconst dy_inner_14 ki_1 ?_
  refine xw_cPi dy_inner_15 (lk_y_inner_15 (xl_n hn (by decide)) rfl) ok_y_readWord (my_readWord hl hn hJ) ⟨Nat.le_of_ble_eq_true rfl, Nat.le_of_ble_eq_true rfl⟩ ?_
  refine xw_lpi (fun r1 e_r1 => ?_)
  have hJ_r1 : yx_J r1.2 := by rw [e_r1]; exact (jy_readWord hJ)
  refine xw_istore3 dy_inner_18 (Nat.le_of_ble_eq_true rfl) rfl ?_
  refine xw_aload0 dy_inner_19 ?_
  refine xw_cVi dy_inner_20 (lk_y_inner_20 (xl_n hn (by decide)) rfl) ok_y_isRaised (my_isRaised hl hn) ⟨Nat.le_of_ble_eq_true rfl, Nat.le_of_ble_eq_true rfl⟩ ?_
  refine xw_if_eq' dy_inner_23 rfl (fun h2 => ?_) (fun h2 => ?_)
  · refine xw_aload0 dy_inner_30 ?_
    refine xw_aload0 dy_inner_31 ?_
    refine xw_getR dy_inner_32 fl_y_13 (xl_n hn (by decide)) rfl r_18_5 ?_
    refine xw_bipush dy_inner_35 kb_23 ?_
    refine xw_iald dy_inner_37 (xl_n hn (by decide)) rfl vc_23_26 cn_23 ?_
    refine xw_iconst dy_inner_38 ki_4 ?_
    refine xw_iload1 dy_inner_39 ?_
    refine xw_imul dy_inner_40 ?_
    refine xw_iadd dy_inner_41 ?_
    refine xw_iconst dy_inner_42 ki_4 ?_
    refine xw_iadd dy_inner_43 ?_
    refine xw_iconst dy_inner_44 ki_1 ?_
    refine xw_cPi dy_inner_45 (lk_y_inner_45 (xl_n hn (by decide)) rfl) ok_y_readWord (my_readWord hl hn hJ_r1) ⟨Nat.le_of_ble_eq_true rfl, Nat.le_of_ble_eq_true rfl⟩ ?_
    refine xw_lpi (fun r3 e_r3 => ?_)
    have hJ_r3 : yx_J r3.2 := by rw [e_r3]; exact (jy_readWord hJ_r1)
    refine xw_istore4 dy_inner_48 (Nat.le_of_ble_eq_true rfl) rfl ?_
    refine xw_aload0 dy_inner_50 ?_
    refine xw_cVi dy_inner_51 (lk_y_inner_51 (xl_n hn (by decide)) rfl) ok_y_isRaised (my_isRaised hl hn) ⟨Nat.le_of_ble_eq_true rfl, Nat.le_of_ble_eq_true rfl⟩ ?_
    refine xw_if_eq' dy_inner_54 rfl (fun h4 => ?_) (fun h4 => ?_)
    · refine xw_iload4 dy_inner_58 ?_
      refine xw_cVi dy_inner_60 (lk_y_inner_60) ok_y_isNull (my_isNull hl hn) ⟨Nat.le_of_ble_eq_true rfl, Nat.le_of_ble_eq_true rfl⟩ ?_
      refine xw_if_eq_mw (J := 83) (a := (fy_lookUp r3.1 (1 : Int32) r3.2)) (b := (fy_raise (10 : Int32) (0 : Int32) r3.2)) dy_inner_63 rfl (fun _ E' k' => ?_) (fun _ E' k' => ?_) ?_
      · refine xw_aload0 dy_inner_76 ?_
        refine xw_iload4 dy_inner_77 ?_
        refine xw_iconst dy_inner_79 ki_1 ?_
        refine xw_cW dy_inner_80 (lk_y_inner_80 (xl_n hn (by decide)) rfl) ok_y_lookUp (my_lookUp hl hn vc_1_2 hJ_r3) ⟨Nat.le_of_ble_eq_true rfl, Nat.le_of_ble_eq_true rfl⟩ ?_
        exact k'
      · refine xw_aload0 dy_inner_66 ?_
        refine xw_bipush dy_inner_67 kb_10 ?_
        refine xw_iconst dy_inner_69 ki_0 ?_
        refine xw_cW dy_inner_70 (lk_y_inner_70 (xl_n hn (by decide)) rfl) ok_y_raise (my_raise hl hn) ⟨Nat.le_of_ble_eq_true rfl, Nat.le_of_ble_eq_true rfl⟩ ?_
        refine xw_goto dy_inner_73 rfl ?_
        exact k'
      refine xw_lw (fun s5 e_s5 => ?_)
      have hJ_s5 : yx_J s5 := by rw [e_s5]; exact (xj_i (fun _ => (jy_lookUp vc_1_2 hJ_r3)) (fun _ => (jy_raise hJ_r3)))
      refine xw_aload0 dy_inner_83 ?_
      refine xw_cVi dy_inner_84 (lk_y_inner_84 (xl_n hn (by decide)) rfl) ok_y_isRaised (my_isRaised hl hn) ⟨Nat.le_of_ble_eq_true rfl, Nat.le_of_ble_eq_true rfl⟩ ?_
      refine xw_if_eq' dy_inner_87 rfl (fun h6 => ?_) (fun h6 => ?_)
      · refine xw_aload0 dy_inner_91 ?_
        refine xw_getR dy_inner_92 fl_y_29 (xl_n hn (by decide)) rfl r_18_14 ?_
        refine xw_iconst dy_inner_95 ki_1 ?_
        refine xw_iald dy_inner_96 (xl_n hn (by decide)) rfl vc_1_2 cn_1 ?_
        refine xw_iconst dy_inner_97 ki_4 ?_
        refine xw_icmp_ne_mw (J := 153) (a := (if (s5 25 1) = a1 then (if (r3.1 &&& (3 : Int32)) = a1 then (if (s5 26 1) = 0 then (fy_raise (12 : Int32) (fy_codeOf r3.1 s5) s5) else s5) else (fy_raise (10 : Int32) (fy_codeOf r3.1 s5) s5)) else (fy_raise (10 : Int32) (fy_codeOf r3.1 s5) s5))) (b := (fy_raise (10 : Int32) (fy_codeOf r3.1 s5) s5)) dy_inner_98 rfl (fun _ E' k' => ?_) (fun _ E' k' => ?_) ?_
        · refine xw_aload0 dy_inner_119 ?_
          refine xw_bipush dy_inner_120 kb_10 ?_
          refine xw_iload4 dy_inner_122 ?_
          refine xw_cVi dy_inner_124 (lk_y_inner_124) ok_y_codeOf (my_codeOf hl hn) ⟨Nat.le_of_ble_eq_true rfl, Nat.le_of_ble_eq_true rfl⟩ ?_
          refine xw_cW dy_inner_127 (lk_y_inner_127 (xl_n hn (by decide)) rfl) ok_y_raise (my_raise hl hn) ⟨Nat.le_of_ble_eq_true rfl, Nat.le_of_ble_eq_true rfl⟩ ?_
          refine xw_goto dy_inner_130 rfl ?_
          exact k'
        · refine xw_aload0 dy_inner_101 ?_
          refine xw_getR dy_inner_102 fl_y_32 (xl_n hn (by decide)) rfl r_18_15 ?_
          refine xw_iconst dy_inner_105 ki_1 ?_
          refine xw_iald dy_inner_106 (xl_n hn (by decide)) rfl vc_1_2 cn_1 ?_
          refine xw_iload1 dy_inner_107 ?_
          refine xw_icmp_ne_mw (J := 153) (a := (if (r3.1 &&& (3 : Int32)) = a1 then (if (s5 26 1) = 0 then (fy_raise (12 : Int32) (fy_codeOf r3.1 s5) s5) else s5) else (fy_raise (10 : Int32) (fy_codeOf r3.1 s5) s5))) (b := (fy_raise (10 : Int32) (fy_codeOf r3.1 s5) s5)) dy_inner_108 rfl (fun _ E' k' => ?_) (fun _ E' k' => ?_) ?_
          · refine xw_aload0 dy_inner_119 ?_
            refine xw_bipush dy_inner_120 kb_10 ?_
            refine xw_iload4 dy_inner_122 ?_
            refine xw_cVi dy_inner_124 (lk_y_inner_124) ok_y_codeOf (my_codeOf hl hn) ⟨Nat.le_of_ble_eq_true rfl, Nat.le_of_ble_eq_true rfl⟩ ?_
            refine xw_cW dy_inner_127 (lk_y_inner_127 (xl_n hn (by decide)) rfl) ok_y_raise (my_raise hl hn) ⟨Nat.le_of_ble_eq_true rfl, Nat.le_of_ble_eq_true rfl⟩ ?_
            refine xw_goto dy_inner_130 rfl ?_
            exact k'
          · refine xw_iload4 dy_inner_111 ?_
            refine xw_iconst dy_inner_113 ki_3 ?_
            refine xw_iand dy_inner_114 ?_
            refine xw_iload1 dy_inner_115 ?_
            refine xw_icmp_eq_mw (J := 153) (a := (if (s5 26 1) = 0 then (fy_raise (12 : Int32) (fy_codeOf r3.1 s5) s5) else s5)) (b := (fy_raise (10 : Int32) (fy_codeOf r3.1 s5) s5)) dy_inner_116 rfl (fun _ E' k' => ?_) (fun _ E' k' => ?_) ?_
            · refine xw_aload0 dy_inner_133 ?_
              refine xw_getR dy_inner_134 fl_y_35 (xl_n hn (by decide)) rfl r_18_16 ?_
              refine xw_iconst dy_inner_137 ki_1 ?_
              refine xw_zald dy_inner_138 (xl_n hn (by decide)) rfl vc_1_2 cn_1 ?_
              refine xw_if_ne_mw (J := 153) (a := (fy_raise (12 : Int32) (fy_codeOf r3.1 s5) s5)) (b := s5) dy_inner_139 rfl (fun _ E' k' => ?_) (fun _ E' k' => ?_) ?_
              · exact k'
              · refine xw_aload0 dy_inner_142 ?_
                refine xw_bipush dy_inner_143 kb_12 ?_
                refine xw_iload4 dy_inner_145 ?_
                refine xw_cVi dy_inner_147 (lk_y_inner_147) ok_y_codeOf (my_codeOf hl hn) ⟨Nat.le_of_ble_eq_true rfl, Nat.le_of_ble_eq_true rfl⟩ ?_
                refine xw_cW dy_inner_150 (lk_y_inner_150 (xl_n hn (by decide)) rfl) ok_y_raise (my_raise hl hn) ⟨Nat.le_of_ble_eq_true rfl, Nat.le_of_ble_eq_true rfl⟩ ?_
                exact k'
              exact k'
            · refine xw_aload0 dy_inner_119 ?_
              refine xw_bipush dy_inner_120 kb_10 ?_
              refine xw_iload4 dy_inner_122 ?_
              refine xw_cVi dy_inner_124 (lk_y_inner_124) ok_y_codeOf (my_codeOf hl hn) ⟨Nat.le_of_ble_eq_true rfl, Nat.le_of_ble_eq_true rfl⟩ ?_
              refine xw_cW dy_inner_127 (lk_y_inner_127 (xl_n hn (by decide)) rfl) ok_y_raise (my_raise hl hn) ⟨Nat.le_of_ble_eq_true rfl, Nat.le_of_ble_eq_true rfl⟩ ?_
              refine xw_goto dy_inner_130 rfl ?_
              exact k'
            exact k'
          exact k'
        refine xw_lw (fun s7 e_s7 => ?_)
        have hJ_s7 : yx_J s7 := by rw [e_s7]; exact (xj_i (fun _ => (xj_i (fun _ => (xj_i (fun _ => (xj_i (fun _ => (jy_raise hJ_s5)) (fun _ => hJ_s5))) (fun _ => (jy_raise hJ_s5)))) (fun _ => (jy_raise hJ_s5)))) (fun _ => (jy_raise hJ_s5)))
        refine xw_iconst dy_inner_153 ki_0 ?_
        refine xw_istore5 dy_inner_154 (Nat.le_of_ble_eq_true rfl) rfl ?_
        refine xw_iload5 dy_inner_156 ?_
        refine xw_iload2 dy_inner_158 ?_
        refine xw_icmp_ge_f dy_inner_159 rfl (by decide) ?_
        refine xw_aload0 dy_inner_162 ?_
        refine xw_cVi dy_inner_163 (lk_y_inner_163 (xl_n hn (by decide)) rfl) ok_y_isRaised (my_isRaised hl hn) ⟨Nat.le_of_ble_eq_true rfl, Nat.le_of_ble_eq_true rfl⟩ ?_
        refine xw_if_ne' dy_inner_166 rfl (fun h8 => ?_) (fun h8 => ?_)
        · refine xw_aload0 dy_inner_202 ?_
          refine xw_cVi dy_inner_203 (lk_y_inner_203 (xl_n hn (by decide)) rfl) ok_y_isRaised (my_isRaised hl hn) ⟨Nat.le_of_ble_eq_true rfl, Nat.le_of_ble_eq_true rfl⟩ ?_
          refine xw_if_eq_f dy_inner_206 rfl h8 ?_
          exact xw_vret dy_inner_209 rfl
        · refine xw_aload0 dy_inner_169 ?_
          refine xw_getR dy_inner_170 fl_y_42 (xl_n hn (by decide)) rfl r_18_18 ?_
          refine xw_iload5 dy_inner_173 ?_
          refine xw_aload0 dy_inner_175 ?_
          refine xw_iconst dy_inner_176 ki_1 ?_
          refine xw_aload0 dy_inner_177 ?_
          refine xw_getR dy_inner_178 fl_y_13 (xl_n hn (by decide)) rfl r_18_5 ?_
          refine xw_bipush dy_inner_181 kb_18 ?_
          refine xw_iald dy_inner_183 (xl_n hn (by decide)) rfl vc_18_26 cn_18 ?_
          refine xw_iconst dy_inner_184 ki_2 ?_
          refine xw_iload5 dy_inner_185 ?_
          refine xw_imul dy_inner_187 ?_
          refine xw_iadd dy_inner_188 ?_
          refine xw_ldc dy_inner_189 kc_y_97 ?_
          refine xw_iand dy_inner_191 ?_
          refine xw_cPi dy_inner_192 (lk_y_inner_192 (xl_n hn (by decide)) rfl) ok_y_segmentWord (my_segmentWord hl hn vc_1_3 hJ_s7) ⟨Nat.le_of_ble_eq_true rfl, Nat.le_of_ble_eq_true rfl⟩ ?_
          refine xw_lpi (fun r9 e_r9 => ?_)
          have hJ_r9 : yx_J r9.2 := by rw [e_r9]; exact (jy_segmentWord vc_1_3 hJ_s7)
          refine xw_iast dy_inner_195 (by decide) (xl_n hn (by decide)) rfl vc_0_8 cn_0 ?_
          refine xw_lw (fun s10 e_s10 => ?_)
          have hJ_s10 : yx_J s10 := by rw [e_s10]; exact (yx_u hJ_r9 (by decide))
          refine xw_iinc5 dy_inner_196 ic_0_1 (Nat.le_of_ble_eq_true rfl) rfl ?_
          refine xw_goto dy_inner_199 rfl ?_
          refine xw_iload5 dy_inner_156 ?_
          refine xw_iload2 dy_inner_158 ?_
          refine xw_icmp_ge_f dy_inner_159 rfl (by decide) ?_
          refine xw_aload0 dy_inner_162 ?_
          refine xw_cVi dy_inner_163 (lk_y_inner_163 (xl_n hn (by decide)) rfl) ok_y_isRaised (my_isRaised hl hn) ⟨Nat.le_of_ble_eq_true rfl, Nat.le_of_ble_eq_true rfl⟩ ?_
          refine xw_if_ne' dy_inner_166 rfl (fun h11 => ?_) (fun h11 => ?_)
          · refine xw_aload0 dy_inner_202 ?_
            refine xw_cVi dy_inner_203 (lk_y_inner_203 (xl_n hn (by decide)) rfl) ok_y_isRaised (my_isRaised hl hn) ⟨Nat.le_of_ble_eq_true rfl, Nat.le_of_ble_eq_true rfl⟩ ?_
            refine xw_if_eq_f dy_inner_206 rfl h11 ?_
            exact xw_vret dy_inner_209 rfl
          · refine xw_aload0 dy_inner_169 ?_
            refine xw_getR dy_inner_170 fl_y_42 (xl_n hn (by decide)) rfl r_18_18 ?_
            refine xw_iload5 dy_inner_173 ?_
            refine xw_aload0 dy_inner_175 ?_
            refine xw_iconst dy_inner_176 ki_1 ?_
            refine xw_aload0 dy_inner_177 ?_
            refine xw_getR dy_inner_178 fl_y_13 (xl_n hn (by decide)) rfl r_18_5 ?_
            refine xw_bipush dy_inner_181 kb_18 ?_
            refine xw_iald dy_inner_183 (xl_n hn (by decide)) rfl vc_18_26 cn_18 ?_
            refine xw_iconst dy_inner_184 ki_2 ?_
            refine xw_iload5 dy_inner_185 ?_
            refine xw_imul dy_inner_187 ?_
            refine xw_iadd dy_inner_188 ?_
            refine xw_ldc dy_inner_189 kc_y_97 ?_
            refine xw_iand dy_inner_191 ?_
            refine xw_cPi dy_inner_192 (lk_y_inner_192 (xl_n hn (by decide)) rfl) ok_y_segmentWord (my_segmentWord hl hn vc_1_3 hJ_s10) ⟨Nat.le_of_ble_eq_true rfl, Nat.le_of_ble_eq_true rfl⟩ ?_
            refine xw_lpi (fun r12 e_r12 => ?_)
            have hJ_r12 : yx_J r12.2 := by rw [e_r12]; exact (jy_segmentWord vc_1_3 hJ_s10)
            refine xw_iast dy_inner_195 (by decide) (xl_n hn (by decide)) rfl vc_1_8 cn_1 ?_
            refine xw_lw (fun s13 e_s13 => ?_)
            have hJ_s13 : yx_J s13 := by rw [e_s13]; exact (yx_u hJ_r12 (by decide))
            refine xw_iinc5 dy_inner_196 ic_1_1 (Nat.le_of_ble_eq_true rfl) rfl ?_
            refine xw_goto dy_inner_199 rfl ?_
            refine xw_iload5 dy_inner_156 ?_
            refine xw_iload2 dy_inner_158 ?_
            refine xw_icmp_ge_f dy_inner_159 rfl (by decide) ?_
            refine xw_aload0 dy_inner_162 ?_
            refine xw_cVi dy_inner_163 (lk_y_inner_163 (xl_n hn (by decide)) rfl) ok_y_isRaised (my_isRaised hl hn) ⟨Nat.le_of_ble_eq_true rfl, Nat.le_of_ble_eq_true rfl⟩ ?_
            refine xw_if_ne' dy_inner_166 rfl (fun h14 => ?_) (fun h14 => ?_)
            · refine xw_aload0 dy_inner_202 ?_
              refine xw_cVi dy_inner_203 (lk_y_inner_203 (xl_n hn (by decide)) rfl) ok_y_isRaised (my_isRaised hl hn) ⟨Nat.le_of_ble_eq_true rfl, Nat.le_of_ble_eq_true rfl⟩ ?_
              refine xw_if_eq_f dy_inner_206 rfl h14 ?_
              exact xw_vret dy_inner_209 rfl
            · refine xw_aload0 dy_inner_169 ?_
              refine xw_getR dy_inner_170 fl_y_42 (xl_n hn (by decide)) rfl r_18_18 ?_
              refine xw_iload5 dy_inner_173 ?_
              refine xw_aload0 dy_inner_175 ?_
              refine xw_iconst dy_inner_176 ki_1 ?_
              refine xw_aload0 dy_inner_177 ?_
              refine xw_getR dy_inner_178 fl_y_13 (xl_n hn (by decide)) rfl r_18_5 ?_
              refine xw_bipush dy_inner_181 kb_18 ?_
              refine xw_iald dy_inner_183 (xl_n hn (by decide)) rfl vc_18_26 cn_18 ?_
              refine xw_iconst dy_inner_184 ki_2 ?_
              refine xw_iload5 dy_inner_185 ?_
              refine xw_imul dy_inner_187 ?_
              refine xw_iadd dy_inner_188 ?_
              refine xw_ldc dy_inner_189 kc_y_97 ?_
              refine xw_iand dy_inner_191 ?_
              refine xw_cPi dy_inner_192 (lk_y_inner_192 (xl_n hn (by decide)) rfl) ok_y_segmentWord (my_segmentWord hl hn vc_1_3 hJ_s13) ⟨Nat.le_of_ble_eq_true rfl, Nat.le_of_ble_eq_true rfl⟩ ?_
              refine xw_lpi (fun r15 e_r15 => ?_)
              have hJ_r15 : yx_J r15.2 := by rw [e_r15]; exact (jy_segmentWord vc_1_3 hJ_s13)
              refine xw_iast dy_inner_195 (by decide) (xl_n hn (by decide)) rfl vc_2_8 cn_2 ?_
              refine xw_lw (fun s16 e_s16 => ?_)
              have hJ_s16 : yx_J s16 := by rw [e_s16]; exact (yx_u hJ_r15 (by decide))
              refine xw_iinc5 dy_inner_196 ic_2_1 (Nat.le_of_ble_eq_true rfl) rfl ?_
              refine xw_goto dy_inner_199 rfl ?_
              refine xw_iload5 dy_inner_156 ?_
              refine xw_iload2 dy_inner_158 ?_
              refine xw_icmp_ge_f dy_inner_159 rfl (by decide) ?_
              refine xw_aload0 dy_inner_162 ?_
              refine xw_cVi dy_inner_163 (lk_y_inner_163 (xl_n hn (by decide)) rfl) ok_y_isRaised (my_isRaised hl hn) ⟨Nat.le_of_ble_eq_true rfl, Nat.le_of_ble_eq_true rfl⟩ ?_
              refine xw_if_ne' dy_inner_166 rfl (fun h17 => ?_) (fun h17 => ?_)
              · refine xw_aload0 dy_inner_202 ?_
                refine xw_cVi dy_inner_203 (lk_y_inner_203 (xl_n hn (by decide)) rfl) ok_y_isRaised (my_isRaised hl hn) ⟨Nat.le_of_ble_eq_true rfl, Nat.le_of_ble_eq_true rfl⟩ ?_
                refine xw_if_eq_f dy_inner_206 rfl h17 ?_
                exact xw_vret dy_inner_209 rfl
              · refine xw_aload0 dy_inner_169 ?_
                refine xw_getR dy_inner_170 fl_y_42 (xl_n hn (by decide)) rfl r_18_18 ?_
                refine xw_iload5 dy_inner_173 ?_
                refine xw_aload0 dy_inner_175 ?_
                refine xw_iconst dy_inner_176 ki_1 ?_
                refine xw_aload0 dy_inner_177 ?_
                refine xw_getR dy_inner_178 fl_y_13 (xl_n hn (by decide)) rfl r_18_5 ?_
                refine xw_bipush dy_inner_181 kb_18 ?_
                refine xw_iald dy_inner_183 (xl_n hn (by decide)) rfl vc_18_26 cn_18 ?_
                refine xw_iconst dy_inner_184 ki_2 ?_
                refine xw_iload5 dy_inner_185 ?_
                refine xw_imul dy_inner_187 ?_
                refine xw_iadd dy_inner_188 ?_
                refine xw_ldc dy_inner_189 kc_y_97 ?_
                refine xw_iand dy_inner_191 ?_
                refine xw_cPi dy_inner_192 (lk_y_inner_192 (xl_n hn (by decide)) rfl) ok_y_segmentWord (my_segmentWord hl hn vc_1_3 hJ_s16) ⟨Nat.le_of_ble_eq_true rfl, Nat.le_of_ble_eq_true rfl⟩ ?_
                refine xw_lpi (fun r18 e_r18 => ?_)
                have hJ_r18 : yx_J r18.2 := by rw [e_r18]; exact (jy_segmentWord vc_1_3 hJ_s16)
                refine xw_iast dy_inner_195 (by decide) (xl_n hn (by decide)) rfl vc_3_8 cn_3 ?_
                refine xw_lw (fun s19 e_s19 => ?_)
                have hJ_s19 : yx_J s19 := by rw [e_s19]; exact (yx_u hJ_r18 (by decide))
                refine xw_iinc5 dy_inner_196 ic_3_1 (Nat.le_of_ble_eq_true rfl) rfl ?_
                refine xw_goto dy_inner_199 rfl ?_
                refine xw_iload5 dy_inner_156 ?_
                refine xw_iload2 dy_inner_158 ?_
                refine xw_icmp_ge_f dy_inner_159 rfl (by decide) ?_
                refine xw_aload0 dy_inner_162 ?_
                refine xw_cVi dy_inner_163 (lk_y_inner_163 (xl_n hn (by decide)) rfl) ok_y_isRaised (my_isRaised hl hn) ⟨Nat.le_of_ble_eq_true rfl, Nat.le_of_ble_eq_true rfl⟩ ?_
                refine xw_if_ne' dy_inner_166 rfl (fun h20 => ?_) (fun h20 => ?_)
                · refine xw_aload0 dy_inner_202 ?_
                  refine xw_cVi dy_inner_203 (lk_y_inner_203 (xl_n hn (by decide)) rfl) ok_y_isRaised (my_isRaised hl hn) ⟨Nat.le_of_ble_eq_true rfl, Nat.le_of_ble_eq_true rfl⟩ ?_
                  refine xw_if_eq_f dy_inner_206 rfl h20 ?_
                  exact xw_vret dy_inner_209 rfl
                · refine xw_aload0 dy_inner_169 ?_
                  refine xw_getR dy_inner_170 fl_y_42 (xl_n hn (by decide)) rfl r_18_18 ?_
                  refine xw_iload5 dy_inner_173 ?_
                  refine xw_aload0 dy_inner_175 ?_
                  refine xw_iconst dy_inner_176 ki_1 ?_
                  refine xw_aload0 dy_inner_177 ?_
                  refine xw_getR dy_inner_178 fl_y_13 (xl_n hn (by decide)) rfl r_18_5 ?_
                  refine xw_bipush dy_inner_181 kb_18 ?_
                  refine xw_iald dy_inner_183 (xl_n hn (by decide)) rfl vc_18_26 cn_18 ?_
                  refine xw_iconst dy_inner_184 ki_2 ?_
                  refine xw_iload5 dy_inner_185 ?_
                  refine xw_imul dy_inner_187 ?_
                  refine xw_iadd dy_inner_188 ?_
                  refine xw_ldc dy_inner_189 kc_y_97 ?_
                  refine xw_iand dy_inner_191 ?_
                  refine xw_cPi dy_inner_192 (lk_y_inner_192 (xl_n hn (by decide)) rfl) ok_y_segmentWord (my_segmentWord hl hn vc_1_3 hJ_s19) ⟨Nat.le_of_ble_eq_true rfl, Nat.le_of_ble_eq_true rfl⟩ ?_
                  refine xw_lpi (fun r21 e_r21 => ?_)
                  have hJ_r21 : yx_J r21.2 := by rw [e_r21]; exact (jy_segmentWord vc_1_3 hJ_s19)
                  refine xw_iast dy_inner_195 (by decide) (xl_n hn (by decide)) rfl vc_4_8 cn_4 ?_
                  refine xw_lw (fun s22 e_s22 => ?_)
                  have hJ_s22 : yx_J s22 := by rw [e_s22]; exact (yx_u hJ_r21 (by decide))
                  refine xw_iinc5 dy_inner_196 ic_4_1 (Nat.le_of_ble_eq_true rfl) rfl ?_
                  refine xw_goto dy_inner_199 rfl ?_
                  refine xw_iload5 dy_inner_156 ?_
                  refine xw_iload2 dy_inner_158 ?_
                  refine xw_icmp_ge_t dy_inner_159 rfl (by decide) ?_
                  refine xw_aload0 dy_inner_202 ?_
                  refine xw_cVi dy_inner_203 (lk_y_inner_203 (xl_n hn (by decide)) rfl) ok_y_isRaised (my_isRaised hl hn) ⟨Nat.le_of_ble_eq_true rfl, Nat.le_of_ble_eq_true rfl⟩ ?_
                  refine xw_if_eq' dy_inner_206 rfl (fun h23 => ?_) (fun h23 => ?_)
                  · refine xw_aload0 dy_inner_210 ?_
                    refine xw_getR dy_inner_211 fl_y_13 (xl_n hn (by decide)) rfl r_18_5 ?_
                    refine xw_iconst dy_inner_214 ki_1 ?_
                    refine xw_iald dy_inner_215 (xl_n hn (by decide)) rfl vc_1_26 cn_1 ?_
                    refine xw_li (fun v24 e_v24 => ?_)
                    refine xw_istore5 dy_inner_216 (Nat.le_of_ble_eq_true rfl) rfl ?_
                    refine xw_aload0 dy_inner_218 ?_
                    refine xw_getR dy_inner_219 fl_y_13 (xl_n hn (by decide)) rfl r_18_5 ?_
                    refine xw_bipush dy_inner_222 kb_18 ?_
                    refine xw_iald dy_inner_224 (xl_n hn (by decide)) rfl vc_18_26 cn_18 ?_
                    refine xw_li (fun v25 e_v25 => ?_)
                    refine xw_istore6 dy_inner_225 (Nat.le_of_ble_eq_true rfl) rfl ?_
                    refine xw_aload0 dy_inner_227 ?_
                    refine xw_getR dy_inner_228 fl_y_13 (xl_n hn (by decide)) rfl r_18_5 ?_
                    refine xw_bipush dy_inner_231 kb_21 ?_
                    refine xw_iload1 dy_inner_233 ?_
                    refine xw_iast dy_inner_234 (by decide) (xl_n hn (by decide)) rfl vc_21_26 cn_21 ?_
                    refine xw_lw (fun s26 e_s26 => ?_)
                    have hJ_s26 : yx_J s26 := by rw [e_s26]; exact (yx_u hJ_s22 (by decide))
                    refine xw_aload0 dy_inner_235 ?_
                    refine xw_iconst dy_inner_236 ki_1 ?_
                    refine xw_iload4 dy_inner_237 ?_
                    refine xw_iconst dy_inner_239 ki_1 ?_
                    refine xw_cW dy_inner_240 (lk_y_inner_240 (xl_n hn (by decide)) rfl) ok_y_setSegment (my_setSegment hl hn vc_1_3 vc_1_2) ⟨Nat.le_of_ble_eq_true rfl, Nat.le_of_ble_eq_true rfl⟩ ?_
                    refine xw_lw (fun s27 e_s27 => ?_)
                    have hJ_s27 : yx_J s27 := by rw [e_s27]; exact (jy_setSegment vc_1_3 vc_1_2 hJ_s26)
                    refine xw_aload0 dy_inner_243 ?_
                    refine xw_getR dy_inner_244 fl_y_13 (xl_n hn (by decide)) rfl r_18_5 ?_
                    refine xw_bipush dy_inner_247 kb_18 ?_
                    refine xw_iload3 dy_inner_249 ?_
                    refine xw_iast dy_inner_250 (by decide) (xl_n hn (by decide)) rfl vc_18_26 cn_18 ?_
                    refine xw_lw (fun s28 e_s28 => ?_)
                    have hJ_s28 : yx_J s28 := by rw [e_s28]; exact (yx_u hJ_s27 (by decide))
                    refine xw_aload0 dy_inner_251 ?_
                    refine xw_iload5 dy_inner_252 ?_
                    refine xw_cW dy_inner_254 (lk_y_inner_254 (xl_n hn (by decide)) rfl) ok_y_pushWord (my_pushWord hl hn hJ_s28) ⟨Nat.le_of_ble_eq_true rfl, Nat.le_of_ble_eq_true rfl⟩ ?_
                    refine xw_lw (fun s29 e_s29 => ?_)
                    have hJ_s29 : yx_J s29 := by rw [e_s29]; exact (jy_pushWord hJ_s28)
                    refine xw_aload0 dy_inner_257 ?_
                    refine xw_iload6 dy_inner_258 ?_
                    refine xw_cW dy_inner_260 (lk_y_inner_260 (xl_n hn (by decide)) rfl) ok_y_pushWord (my_pushWord hl hn hJ_s29) ⟨Nat.le_of_ble_eq_true rfl, Nat.le_of_ble_eq_true rfl⟩ ?_
                    refine xw_lw (fun s30 e_s30 => ?_)
                    have hJ_s30 : yx_J s30 := by rw [e_s30]; exact (jy_pushWord hJ_s29)
                    refine xw_iload2 dy_inner_263 ?_
                    refine xw_iconst dy_inner_264 ki_1 ?_
                    refine xw_isubc dy_inner_265 sb_5_1 ?_
                    refine xw_istore7 dy_inner_266 (Nat.le_of_ble_eq_true rfl) rfl ?_
                    refine xw_iload7 dy_inner_268 ?_
                    refine xw_if_lt_f dy_inner_270 rfl (by decide) ?_
                    refine xw_aload0 dy_inner_273 ?_
                    refine xw_aload0 dy_inner_274 ?_
                    refine xw_getR dy_inner_275 fl_y_42 (xl_n hn (by decide)) rfl r_18_18 ?_
                    refine xw_iload7 dy_inner_278 ?_
                    refine xw_iald dy_inner_280 (xl_n hn (by decide)) rfl vc_4_8 cn_4 ?_
                    refine xw_cW dy_inner_281 (lk_y_inner_281 (xl_n hn (by decide)) rfl) ok_y_pushWord (my_pushWord hl hn hJ_s30) ⟨Nat.le_of_ble_eq_true rfl, Nat.le_of_ble_eq_true rfl⟩ ?_
                    refine xw_lw (fun s31 e_s31 => ?_)
                    have hJ_s31 : yx_J s31 := by rw [e_s31]; exact (jy_pushWord hJ_s30)
                    refine xw_iinc7 dy_inner_284 ic_4_m1 (Nat.le_of_ble_eq_true rfl) rfl ?_
                    refine xw_goto dy_inner_287 rfl ?_
                    refine xw_iload7 dy_inner_268 ?_
                    refine xw_if_lt_f dy_inner_270 rfl (by decide) ?_
                    refine xw_aload0 dy_inner_273 ?_
                    refine xw_aload0 dy_inner_274 ?_
                    refine xw_getR dy_inner_275 fl_y_42 (xl_n hn (by decide)) rfl r_18_18 ?_
                    refine xw_iload7 dy_inner_278 ?_
                    refine xw_iald dy_inner_280 (xl_n hn (by decide)) rfl vc_3_8 cn_3 ?_
                    refine xw_cW dy_inner_281 (lk_y_inner_281 (xl_n hn (by decide)) rfl) ok_y_pushWord (my_pushWord hl hn hJ_s31) ⟨Nat.le_of_ble_eq_true rfl, Nat.le_of_ble_eq_true rfl⟩ ?_
                    refine xw_lw (fun s32 e_s32 => ?_)
                    have hJ_s32 : yx_J s32 := by rw [e_s32]; exact (jy_pushWord hJ_s31)
                    refine xw_iinc7 dy_inner_284 ic_3_m1 (Nat.le_of_ble_eq_true rfl) rfl ?_
                    refine xw_goto dy_inner_287 rfl ?_
                    refine xw_iload7 dy_inner_268 ?_
                    refine xw_if_lt_f dy_inner_270 rfl (by decide) ?_
                    refine xw_aload0 dy_inner_273 ?_
                    refine xw_aload0 dy_inner_274 ?_
                    refine xw_getR dy_inner_275 fl_y_42 (xl_n hn (by decide)) rfl r_18_18 ?_
                    refine xw_iload7 dy_inner_278 ?_
                    refine xw_iald dy_inner_280 (xl_n hn (by decide)) rfl vc_2_8 cn_2 ?_
                    refine xw_cW dy_inner_281 (lk_y_inner_281 (xl_n hn (by decide)) rfl) ok_y_pushWord (my_pushWord hl hn hJ_s32) ⟨Nat.le_of_ble_eq_true rfl, Nat.le_of_ble_eq_true rfl⟩ ?_
                    refine xw_lw (fun s33 e_s33 => ?_)
                    have hJ_s33 : yx_J s33 := by rw [e_s33]; exact (jy_pushWord hJ_s32)
                    refine xw_iinc7 dy_inner_284 ic_2_m1 (Nat.le_of_ble_eq_true rfl) rfl ?_
                    refine xw_goto dy_inner_287 rfl ?_
                    refine xw_iload7 dy_inner_268 ?_
                    refine xw_if_lt_f dy_inner_270 rfl (by decide) ?_
                    refine xw_aload0 dy_inner_273 ?_
                    refine xw_aload0 dy_inner_274 ?_
                    refine xw_getR dy_inner_275 fl_y_42 (xl_n hn (by decide)) rfl r_18_18 ?_
                    refine xw_iload7 dy_inner_278 ?_
                    refine xw_iald dy_inner_280 (xl_n hn (by decide)) rfl vc_1_8 cn_1 ?_
                    refine xw_cW dy_inner_281 (lk_y_inner_281 (xl_n hn (by decide)) rfl) ok_y_pushWord (my_pushWord hl hn hJ_s33) ⟨Nat.le_of_ble_eq_true rfl, Nat.le_of_ble_eq_true rfl⟩ ?_
                    refine xw_lw (fun s34 e_s34 => ?_)
                    have hJ_s34 : yx_J s34 := by rw [e_s34]; exact (jy_pushWord hJ_s33)
                    refine xw_iinc7 dy_inner_284 ic_1_m1 (Nat.le_of_ble_eq_true rfl) rfl ?_
                    refine xw_goto dy_inner_287 rfl ?_
                    refine xw_iload7 dy_inner_268 ?_
                    refine xw_if_lt_f dy_inner_270 rfl (by decide) ?_
                    refine xw_aload0 dy_inner_273 ?_
                    refine xw_aload0 dy_inner_274 ?_
                    refine xw_getR dy_inner_275 fl_y_42 (xl_n hn (by decide)) rfl r_18_18 ?_
                    refine xw_iload7 dy_inner_278 ?_
                    refine xw_iald dy_inner_280 (xl_n hn (by decide)) rfl vc_0_8 cn_0 ?_
                    refine xw_cW dy_inner_281 (lk_y_inner_281 (xl_n hn (by decide)) rfl) ok_y_pushWord (my_pushWord hl hn hJ_s34) ⟨Nat.le_of_ble_eq_true rfl, Nat.le_of_ble_eq_true rfl⟩ ?_
                    refine xw_lw (fun s35 e_s35 => ?_)
                    have hJ_s35 : yx_J s35 := by rw [e_s35]; exact (jy_pushWord hJ_s34)
                    refine xw_iinc7 dy_inner_284 ic_0_m1 (Nat.le_of_ble_eq_true rfl) rfl ?_
                    refine xw_goto dy_inner_287 rfl ?_
                    refine xw_iload7 dy_inner_268 ?_
                    refine xw_if_lt_t dy_inner_270 rfl (by decide) ?_
                    exact xw_vret dy_inner_290 rfl
                  · exact xw_vret dy_inner_209 rfl
      · exact xw_vret dy_inner_90 rfl
    · exact xw_vret dy_inner_57 rfl
  · refine xw_iconst dy_inner_26 ki_0 ?_
    refine xw_goto dy_inner_27 rfl ?_
    refine xw_istore4 dy_inner_48 (Nat.le_of_ble_eq_true rfl) rfl ?_
    refine xw_aload0 dy_inner_50 ?_
    refine xw_cVi dy_inner_51 (lk_y_inner_51 (xl_n hn (by decide)) rfl) ok_y_isRaised (my_isRaised hl hn) ⟨Nat.le_of_ble_eq_true rfl, Nat.le_of_ble_eq_true rfl⟩ ?_
    refine xw_if_eq_f dy_inner_54 rfl h2 ?_
    exact xw_vret dy_inner_57 rfl
theorem jy_inner_5 {a1 : Int32} {σ : xs_S} (hJ : yx_J σ) : yx_J (fy_inner_5 a1 σ) := by
  unfold fy_inner_5
  refine xj_wl (fun r1 e_r1 => ?_)
  have hJ_r1 : yx_J r1.2 := by rw [e_r1]; exact (jy_readWord hJ)
  refine xj_wf (fun h2 => ?_) (fun h2 => ?_)
  · refine xj_wl (fun r3 e_r3 => ?_)
    have hJ_r3 : yx_J r3.2 := by rw [e_r3]; exact (jy_readWord hJ_r1)
    refine xj_wf (fun h4 => ?_) (fun h4 => ?_)
    · refine xj_wl (fun s5 e_s5 => ?_)
      have hJ_s5 : yx_J s5 := by rw [e_s5]; exact (xj_i (fun _ => (jy_lookUp vc_1_2 hJ_r3)) (fun _ => (jy_raise hJ_r3)))
      refine xj_wf (fun h6 => ?_) (fun h6 => ?_)
      · refine xj_wl (fun s7 e_s7 => ?_)
        have hJ_s7 : yx_J s7 := by rw [e_s7]; exact (xj_i (fun _ => (xj_i (fun _ => (xj_i (fun _ => (xj_i (fun _ => (jy_raise hJ_s5)) (fun _ => hJ_s5))) (fun _ => (jy_raise hJ_s5)))) (fun _ => (jy_raise hJ_s5)))) (fun _ => (jy_raise hJ_s5)))
        refine xj_wf (fun h8 => ?_) (fun h8 => ?_)
        · refine xj_wl (fun r9 e_r9 => ?_)
          have hJ_r9 : yx_J r9.2 := by rw [e_r9]; exact (jy_segmentWord vc_1_3 hJ_s7)
          refine xj_wl (fun s10 e_s10 => ?_)
          have hJ_s10 : yx_J s10 := by rw [e_s10]; exact (yx_u hJ_r9 (by decide))
          refine xj_wf (fun h11 => ?_) (fun h11 => ?_)
          · refine xj_wl (fun r12 e_r12 => ?_)
            have hJ_r12 : yx_J r12.2 := by rw [e_r12]; exact (jy_segmentWord vc_1_3 hJ_s10)
            refine xj_wl (fun s13 e_s13 => ?_)
            have hJ_s13 : yx_J s13 := by rw [e_s13]; exact (yx_u hJ_r12 (by decide))
            refine xj_wf (fun h14 => ?_) (fun h14 => ?_)
            · refine xj_wl (fun r15 e_r15 => ?_)
              have hJ_r15 : yx_J r15.2 := by rw [e_r15]; exact (jy_segmentWord vc_1_3 hJ_s13)
              refine xj_wl (fun s16 e_s16 => ?_)
              have hJ_s16 : yx_J s16 := by rw [e_s16]; exact (yx_u hJ_r15 (by decide))
              refine xj_wf (fun h17 => ?_) (fun h17 => ?_)
              · refine xj_wl (fun r18 e_r18 => ?_)
                have hJ_r18 : yx_J r18.2 := by rw [e_r18]; exact (jy_segmentWord vc_1_3 hJ_s16)
                refine xj_wl (fun s19 e_s19 => ?_)
                have hJ_s19 : yx_J s19 := by rw [e_s19]; exact (yx_u hJ_r18 (by decide))
                refine xj_wf (fun h20 => ?_) (fun h20 => ?_)
                · refine xj_wl (fun r21 e_r21 => ?_)
                  have hJ_r21 : yx_J r21.2 := by rw [e_r21]; exact (jy_segmentWord vc_1_3 hJ_s19)
                  refine xj_wl (fun s22 e_s22 => ?_)
                  have hJ_s22 : yx_J s22 := by rw [e_s22]; exact (yx_u hJ_r21 (by decide))
                  refine xj_wf (fun h23 => ?_) (fun h23 => ?_)
                  · refine xj_wl (fun v24 e_v24 => ?_)
                    refine xj_wl (fun v25 e_v25 => ?_)
                    refine xj_wl (fun s26 e_s26 => ?_)
                    have hJ_s26 : yx_J s26 := by rw [e_s26]; exact (yx_u hJ_s22 (by decide))
                    refine xj_wl (fun s27 e_s27 => ?_)
                    have hJ_s27 : yx_J s27 := by rw [e_s27]; exact (jy_setSegment vc_1_3 vc_1_2 hJ_s26)
                    refine xj_wl (fun s28 e_s28 => ?_)
                    have hJ_s28 : yx_J s28 := by rw [e_s28]; exact (yx_u hJ_s27 (by decide))
                    refine xj_wl (fun s29 e_s29 => ?_)
                    have hJ_s29 : yx_J s29 := by rw [e_s29]; exact (jy_pushWord hJ_s28)
                    refine xj_wl (fun s30 e_s30 => ?_)
                    have hJ_s30 : yx_J s30 := by rw [e_s30]; exact (jy_pushWord hJ_s29)
                    refine xj_wl (fun s31 e_s31 => ?_)
                    have hJ_s31 : yx_J s31 := by rw [e_s31]; exact (jy_pushWord hJ_s30)
                    refine xj_wl (fun s32 e_s32 => ?_)
                    have hJ_s32 : yx_J s32 := by rw [e_s32]; exact (jy_pushWord hJ_s31)
                    refine xj_wl (fun s33 e_s33 => ?_)
                    have hJ_s33 : yx_J s33 := by rw [e_s33]; exact (jy_pushWord hJ_s32)
                    refine xj_wl (fun s34 e_s34 => ?_)
                    have hJ_s34 : yx_J s34 := by rw [e_s34]; exact (jy_pushWord hJ_s33)
                    refine xj_wl (fun s35 e_s35 => ?_)
                    have hJ_s35 : yx_J s35 := by rw [e_s35]; exact (jy_pushWord hJ_s34)
                    exact hJ_s35
                  · exact hJ_s22
                · exact hJ_s19
              · exact hJ_s16
            · exact hJ_s13
          · exact hJ_s10
        · exact hJ_s7
      · exact hJ_s5
    · exact hJ_r3
  · exact hJ_r1
def fy_inner_6 (a1 : Int32) (σ : xs_S) : xs_S := xl_l (fy_readWord (((σ 20 23) + ((4 : Int32) * a1)) + (2 : Int32)) (1 : Int32) σ) (fun r1 => (if (fy_isRaised r1.2) = 0 then xl_l (fy_readWord (((r1.2 20 23) + ((4 : Int32) * a1)) + (4 : Int32)) (1 : Int32) r1.2) (fun r3 => (if (fy_isRaised r3.2) = 0 then xl_l ((if (fy_isNull r3.1 r3.2) = 0 then (fy_lookUp r3.1 (1 : Int32) r3.2) else (fy_raise (10 : Int32) (0 : Int32) r3.2))) (fun s5 => (if (fy_isRaised s5) = 0 then xl_l ((if (s5 24 1) = (4 : Int32) then (if (s5 25 1) = a1 then (if (r3.1 &&& (3 : Int32)) = a1 then (if (s5 26 1) = 0 then (fy_raise (12 : Int32) (fy_codeOf r3.1 s5) s5) else s5) else (fy_raise (10 : Int32) (fy_codeOf r3.1 s5) s5)) else (fy_raise (10 : Int32) (fy_codeOf r3.1 s5) s5)) else (fy_raise (10 : Int32) (fy_codeOf r3.1 s5) s5))) (fun s7 => (if (fy_isRaised s7) = 0 then xl_l (fy_segmentWord (1 : Int32) (((s7 20 18) + ((2 : Int32) * (0 : Int32))) &&& (65535 : Int32)) s7) (fun r9 => xl_l ((xu_u r9.2 28 0 r9.1)) (fun s10 => (if (fy_isRaised s10) = 0 then xl_l (fy_segmentWord (1 : Int32) (((s10 20 18) + ((2 : Int32) * (1 : Int32))) &&& (65535 : Int32)) s10) (fun r12 => xl_l ((xu_u r12.2 28 1 r12.1)) (fun s13 => (if (fy_isRaised s13) = 0 then xl_l (fy_segmentWord (1 : Int32) (((s13 20 18) + ((2 : Int32) * (2 : Int32))) &&& (65535 : Int32)) s13) (fun r15 => xl_l ((xu_u r15.2 28 2 r15.1)) (fun s16 => (if (fy_isRaised s16) = 0 then xl_l (fy_segmentWord (1 : Int32) (((s16 20 18) + ((2 : Int32) * (3 : Int32))) &&& (65535 : Int32)) s16) (fun r18 => xl_l ((xu_u r18.2 28 3 r18.1)) (fun s19 => (if (fy_isRaised s19) = 0 then xl_l (fy_segmentWord (1 : Int32) (((s19 20 18) + ((2 : Int32) * (4 : Int32))) &&& (65535 : Int32)) s19) (fun r21 => xl_l ((xu_u r21.2 28 4 r21.1)) (fun s22 => (if (fy_isRaised s22) = 0 then xl_l (fy_segmentWord (1 : Int32) (((s22 20 18) + ((2 : Int32) * (5 : Int32))) &&& (65535 : Int32)) s22) (fun r24 => xl_l ((xu_u r24.2 28 5 r24.1)) (fun s25 => (if (fy_isRaised s25) = 0 then xl_l ((s25 20 1)) (fun v27 => xl_l ((s25 20 18)) (fun v28 => xl_l ((xu_u s25 20 21 a1)) (fun s29 => xl_l ((fy_setSegment (1 : Int32) r3.1 (1 : Int32) s29)) (fun s30 => xl_l ((xu_u s30 20 18 r1.1)) (fun s31 => xl_l ((fy_pushWord v27 s31)) (fun s32 => xl_l ((fy_pushWord v28 s32)) (fun s33 => xl_l ((fy_pushWord (s33 28 5) s33)) (fun s34 => xl_l ((fy_pushWord (s34 28 4) s34)) (fun s35 => xl_l ((fy_pushWord (s35 28 3) s35)) (fun s36 => xl_l ((fy_pushWord (s36 28 2) s36)) (fun s37 => xl_l ((fy_pushWord (s37 28 1) s37)) (fun s38 => xl_l ((fy_pushWord (s38 28 0) s38)) (fun s39 => s39))))))))))))) else s25))) else s22))) else s19))) else s16))) else s13))) else s10))) else s7)) else s5)) else r3.2)) else r1.2))
set_option maxRecDepth 100000 in
set_option maxHeartbeats 4000000 in
theorem my_inner_6 {l : Launch} {N n u : Nat} {a1 : Int32} {σ : xs_S} (hl : l.stackTraces = false) (hn : 29 ≤ n) (hJ : yx_J σ) : xm_m (xk_k N) l ty_inner [.ref 18, .int a1, .int (6 : Int32)] (n, u, σ, xr_0) (xe_w n u (fy_inner_6 a1 σ)) := by
  refine xm_of hl ok_y_inner (Nat.le_of_ble_eq_true rfl) ?_
  show xw_w (xk_k N) l ty_inner 0 [some (.ref 18), some (.int a1), some (.int (6 : Int32)), none, none, none, none, none] [] (n, u, σ, xr_0) (xe_w n u (fy_inner_6 a1 σ))
  unfold fy_inner_6
  refine xw_aload0 dy_inner_0 ?_
  refine xw_aload0 dy_inner_1 ?_
  refine xw_getR dy_inner_2 fl_y_13 (xl_n hn (by decide)) rfl r_18_5 ?_
  refine xw_bipush dy_inner_5 kb_23 ?_
  refine xw_iald dy_inner_7 (xl_n hn (by decide)) rfl vc_23_26 cn_23 ?_
  refine xw_iconst dy_inner_8 ki_4 ?_
  refine xw_iload1 dy_inner_9 ?_
  refine xw_imul dy_inner_10 ?_
  refine xw_iadd dy_inner_11 ?_
  refine xw_iconst dy_inner_12 ki_2 ?_
  refine xw_iadd dy_inner_13 ?_
  refine xw_iconst dy_inner_14 ki_1 ?_
  refine xw_cPi dy_inner_15 (lk_y_inner_15 (xl_n hn (by decide)) rfl) ok_y_readWord (my_readWord hl hn hJ) ⟨Nat.le_of_ble_eq_true rfl, Nat.le_of_ble_eq_true rfl⟩ ?_
  refine xw_lpi (fun r1 e_r1 => ?_)
  have hJ_r1 : yx_J r1.2 := by rw [e_r1]; exact (jy_readWord hJ)
  refine xw_istore3 dy_inner_18 (Nat.le_of_ble_eq_true rfl) rfl ?_
  refine xw_aload0 dy_inner_19 ?_
  refine xw_cVi dy_inner_20 (lk_y_inner_20 (xl_n hn (by decide)) rfl) ok_y_isRaised (my_isRaised hl hn) ⟨Nat.le_of_ble_eq_true rfl, Nat.le_of_ble_eq_true rfl⟩ ?_
  refine xw_if_eq' dy_inner_23 rfl (fun h2 => ?_) (fun h2 => ?_)
  · refine xw_aload0 dy_inner_30 ?_
    refine xw_aload0 dy_inner_31 ?_
    refine xw_getR dy_inner_32 fl_y_13 (xl_n hn (by decide)) rfl r_18_5 ?_
    refine xw_bipush dy_inner_35 kb_23 ?_
    refine xw_iald dy_inner_37 (xl_n hn (by decide)) rfl vc_23_26 cn_23 ?_
    refine xw_iconst dy_inner_38 ki_4 ?_
    refine xw_iload1 dy_inner_39 ?_
    refine xw_imul dy_inner_40 ?_
    refine xw_iadd dy_inner_41 ?_
    refine xw_iconst dy_inner_42 ki_4 ?_
    refine xw_iadd dy_inner_43 ?_
    refine xw_iconst dy_inner_44 ki_1 ?_
    refine xw_cPi dy_inner_45 (lk_y_inner_45 (xl_n hn (by decide)) rfl) ok_y_readWord (my_readWord hl hn hJ_r1) ⟨Nat.le_of_ble_eq_true rfl, Nat.le_of_ble_eq_true rfl⟩ ?_
    refine xw_lpi (fun r3 e_r3 => ?_)
    have hJ_r3 : yx_J r3.2 := by rw [e_r3]; exact (jy_readWord hJ_r1)
    refine xw_istore4 dy_inner_48 (Nat.le_of_ble_eq_true rfl) rfl ?_
    refine xw_aload0 dy_inner_50 ?_
    refine xw_cVi dy_inner_51 (lk_y_inner_51 (xl_n hn (by decide)) rfl) ok_y_isRaised (my_isRaised hl hn) ⟨Nat.le_of_ble_eq_true rfl, Nat.le_of_ble_eq_true rfl⟩ ?_
    refine xw_if_eq' dy_inner_54 rfl (fun h4 => ?_) (fun h4 => ?_)
    · refine xw_iload4 dy_inner_58 ?_
      refine xw_cVi dy_inner_60 (lk_y_inner_60) ok_y_isNull (my_isNull hl hn) ⟨Nat.le_of_ble_eq_true rfl, Nat.le_of_ble_eq_true rfl⟩ ?_
      refine xw_if_eq_mw (J := 83) (a := (fy_lookUp r3.1 (1 : Int32) r3.2)) (b := (fy_raise (10 : Int32) (0 : Int32) r3.2)) dy_inner_63 rfl (fun _ E' k' => ?_) (fun _ E' k' => ?_) ?_
      · refine xw_aload0 dy_inner_76 ?_
        refine xw_iload4 dy_inner_77 ?_
        refine xw_iconst dy_inner_79 ki_1 ?_
        refine xw_cW dy_inner_80 (lk_y_inner_80 (xl_n hn (by decide)) rfl) ok_y_lookUp (my_lookUp hl hn vc_1_2 hJ_r3) ⟨Nat.le_of_ble_eq_true rfl, Nat.le_of_ble_eq_true rfl⟩ ?_
        exact k'
      · refine xw_aload0 dy_inner_66 ?_
        refine xw_bipush dy_inner_67 kb_10 ?_
        refine xw_iconst dy_inner_69 ki_0 ?_
        refine xw_cW dy_inner_70 (lk_y_inner_70 (xl_n hn (by decide)) rfl) ok_y_raise (my_raise hl hn) ⟨Nat.le_of_ble_eq_true rfl, Nat.le_of_ble_eq_true rfl⟩ ?_
        refine xw_goto dy_inner_73 rfl ?_
        exact k'
      refine xw_lw (fun s5 e_s5 => ?_)
      have hJ_s5 : yx_J s5 := by rw [e_s5]; exact (xj_i (fun _ => (jy_lookUp vc_1_2 hJ_r3)) (fun _ => (jy_raise hJ_r3)))
      refine xw_aload0 dy_inner_83 ?_
      refine xw_cVi dy_inner_84 (lk_y_inner_84 (xl_n hn (by decide)) rfl) ok_y_isRaised (my_isRaised hl hn) ⟨Nat.le_of_ble_eq_true rfl, Nat.le_of_ble_eq_true rfl⟩ ?_
      refine xw_if_eq' dy_inner_87 rfl (fun h6 => ?_) (fun h6 => ?_)
      · refine xw_aload0 dy_inner_91 ?_
        refine xw_getR dy_inner_92 fl_y_29 (xl_n hn (by decide)) rfl r_18_14 ?_
        refine xw_iconst dy_inner_95 ki_1 ?_
        refine xw_iald dy_inner_96 (xl_n hn (by decide)) rfl vc_1_2 cn_1 ?_
        refine xw_iconst dy_inner_97 ki_4 ?_
        refine xw_icmp_ne_mw (J := 153) (a := (if (s5 25 1) = a1 then (if (r3.1 &&& (3 : Int32)) = a1 then (if (s5 26 1) = 0 then (fy_raise (12 : Int32) (fy_codeOf r3.1 s5) s5) else s5) else (fy_raise (10 : Int32) (fy_codeOf r3.1 s5) s5)) else (fy_raise (10 : Int32) (fy_codeOf r3.1 s5) s5))) (b := (fy_raise (10 : Int32) (fy_codeOf r3.1 s5) s5)) dy_inner_98 rfl (fun _ E' k' => ?_) (fun _ E' k' => ?_) ?_
        · refine xw_aload0 dy_inner_119 ?_
          refine xw_bipush dy_inner_120 kb_10 ?_
          refine xw_iload4 dy_inner_122 ?_
          refine xw_cVi dy_inner_124 (lk_y_inner_124) ok_y_codeOf (my_codeOf hl hn) ⟨Nat.le_of_ble_eq_true rfl, Nat.le_of_ble_eq_true rfl⟩ ?_
          refine xw_cW dy_inner_127 (lk_y_inner_127 (xl_n hn (by decide)) rfl) ok_y_raise (my_raise hl hn) ⟨Nat.le_of_ble_eq_true rfl, Nat.le_of_ble_eq_true rfl⟩ ?_
          refine xw_goto dy_inner_130 rfl ?_
          exact k'
        · refine xw_aload0 dy_inner_101 ?_
          refine xw_getR dy_inner_102 fl_y_32 (xl_n hn (by decide)) rfl r_18_15 ?_
          refine xw_iconst dy_inner_105 ki_1 ?_
          refine xw_iald dy_inner_106 (xl_n hn (by decide)) rfl vc_1_2 cn_1 ?_
          refine xw_iload1 dy_inner_107 ?_
          refine xw_icmp_ne_mw (J := 153) (a := (if (r3.1 &&& (3 : Int32)) = a1 then (if (s5 26 1) = 0 then (fy_raise (12 : Int32) (fy_codeOf r3.1 s5) s5) else s5) else (fy_raise (10 : Int32) (fy_codeOf r3.1 s5) s5))) (b := (fy_raise (10 : Int32) (fy_codeOf r3.1 s5) s5)) dy_inner_108 rfl (fun _ E' k' => ?_) (fun _ E' k' => ?_) ?_
          · refine xw_aload0 dy_inner_119 ?_
            refine xw_bipush dy_inner_120 kb_10 ?_
            refine xw_iload4 dy_inner_122 ?_
            refine xw_cVi dy_inner_124 (lk_y_inner_124) ok_y_codeOf (my_codeOf hl hn) ⟨Nat.le_of_ble_eq_true rfl, Nat.le_of_ble_eq_true rfl⟩ ?_
            refine xw_cW dy_inner_127 (lk_y_inner_127 (xl_n hn (by decide)) rfl) ok_y_raise (my_raise hl hn) ⟨Nat.le_of_ble_eq_true rfl, Nat.le_of_ble_eq_true rfl⟩ ?_
            refine xw_goto dy_inner_130 rfl ?_
            exact k'
          · refine xw_iload4 dy_inner_111 ?_
            refine xw_iconst dy_inner_113 ki_3 ?_
            refine xw_iand dy_inner_114 ?_
            refine xw_iload1 dy_inner_115 ?_
            refine xw_icmp_eq_mw (J := 153) (a := (if (s5 26 1) = 0 then (fy_raise (12 : Int32) (fy_codeOf r3.1 s5) s5) else s5)) (b := (fy_raise (10 : Int32) (fy_codeOf r3.1 s5) s5)) dy_inner_116 rfl (fun _ E' k' => ?_) (fun _ E' k' => ?_) ?_
            · refine xw_aload0 dy_inner_133 ?_
              refine xw_getR dy_inner_134 fl_y_35 (xl_n hn (by decide)) rfl r_18_16 ?_
              refine xw_iconst dy_inner_137 ki_1 ?_
              refine xw_zald dy_inner_138 (xl_n hn (by decide)) rfl vc_1_2 cn_1 ?_
              refine xw_if_ne_mw (J := 153) (a := (fy_raise (12 : Int32) (fy_codeOf r3.1 s5) s5)) (b := s5) dy_inner_139 rfl (fun _ E' k' => ?_) (fun _ E' k' => ?_) ?_
              · exact k'
              · refine xw_aload0 dy_inner_142 ?_
                refine xw_bipush dy_inner_143 kb_12 ?_
                refine xw_iload4 dy_inner_145 ?_
                refine xw_cVi dy_inner_147 (lk_y_inner_147) ok_y_codeOf (my_codeOf hl hn) ⟨Nat.le_of_ble_eq_true rfl, Nat.le_of_ble_eq_true rfl⟩ ?_
                refine xw_cW dy_inner_150 (lk_y_inner_150 (xl_n hn (by decide)) rfl) ok_y_raise (my_raise hl hn) ⟨Nat.le_of_ble_eq_true rfl, Nat.le_of_ble_eq_true rfl⟩ ?_
                exact k'
              exact k'
            · refine xw_aload0 dy_inner_119 ?_
              refine xw_bipush dy_inner_120 kb_10 ?_
              refine xw_iload4 dy_inner_122 ?_
              refine xw_cVi dy_inner_124 (lk_y_inner_124) ok_y_codeOf (my_codeOf hl hn) ⟨Nat.le_of_ble_eq_true rfl, Nat.le_of_ble_eq_true rfl⟩ ?_
              refine xw_cW dy_inner_127 (lk_y_inner_127 (xl_n hn (by decide)) rfl) ok_y_raise (my_raise hl hn) ⟨Nat.le_of_ble_eq_true rfl, Nat.le_of_ble_eq_true rfl⟩ ?_
              refine xw_goto dy_inner_130 rfl ?_
              exact k'
            exact k'
          exact k'
        refine xw_lw (fun s7 e_s7 => ?_)
        have hJ_s7 : yx_J s7 := by rw [e_s7]; exact (xj_i (fun _ => (xj_i (fun _ => (xj_i (fun _ => (xj_i (fun _ => (jy_raise hJ_s5)) (fun _ => hJ_s5))) (fun _ => (jy_raise hJ_s5)))) (fun _ => (jy_raise hJ_s5)))) (fun _ => (jy_raise hJ_s5)))
        refine xw_iconst dy_inner_153 ki_0 ?_
        refine xw_istore5 dy_inner_154 (Nat.le_of_ble_eq_true rfl) rfl ?_
        refine xw_iload5 dy_inner_156 ?_
        refine xw_iload2 dy_inner_158 ?_
        refine xw_icmp_ge_f dy_inner_159 rfl (by decide) ?_
        refine xw_aload0 dy_inner_162 ?_
        refine xw_cVi dy_inner_163 (lk_y_inner_163 (xl_n hn (by decide)) rfl) ok_y_isRaised (my_isRaised hl hn) ⟨Nat.le_of_ble_eq_true rfl, Nat.le_of_ble_eq_true rfl⟩ ?_
        refine xw_if_ne' dy_inner_166 rfl (fun h8 => ?_) (fun h8 => ?_)
        · refine xw_aload0 dy_inner_202 ?_
          refine xw_cVi dy_inner_203 (lk_y_inner_203 (xl_n hn (by decide)) rfl) ok_y_isRaised (my_isRaised hl hn) ⟨Nat.le_of_ble_eq_true rfl, Nat.le_of_ble_eq_true rfl⟩ ?_
          refine xw_if_eq_f dy_inner_206 rfl h8 ?_
          exact xw_vret dy_inner_209 rfl
        · refine xw_aload0 dy_inner_169 ?_
          refine xw_getR dy_inner_170 fl_y_42 (xl_n hn (by decide)) rfl r_18_18 ?_
          refine xw_iload5 dy_inner_173 ?_
          refine xw_aload0 dy_inner_175 ?_
          refine xw_iconst dy_inner_176 ki_1 ?_
          refine xw_aload0 dy_inner_177 ?_
          refine xw_getR dy_inner_178 fl_y_13 (xl_n hn (by decide)) rfl r_18_5 ?_
          refine xw_bipush dy_inner_181 kb_18 ?_
          refine xw_iald dy_inner_183 (xl_n hn (by decide)) rfl vc_18_26 cn_18 ?_
          refine xw_iconst dy_inner_184 ki_2 ?_
          refine xw_iload5 dy_inner_185 ?_
          refine xw_imul dy_inner_187 ?_
          refine xw_iadd dy_inner_188 ?_
          refine xw_ldc dy_inner_189 kc_y_97 ?_
          refine xw_iand dy_inner_191 ?_
          refine xw_cPi dy_inner_192 (lk_y_inner_192 (xl_n hn (by decide)) rfl) ok_y_segmentWord (my_segmentWord hl hn vc_1_3 hJ_s7) ⟨Nat.le_of_ble_eq_true rfl, Nat.le_of_ble_eq_true rfl⟩ ?_
          refine xw_lpi (fun r9 e_r9 => ?_)
          have hJ_r9 : yx_J r9.2 := by rw [e_r9]; exact (jy_segmentWord vc_1_3 hJ_s7)
          refine xw_iast dy_inner_195 (by decide) (xl_n hn (by decide)) rfl vc_0_8 cn_0 ?_
          refine xw_lw (fun s10 e_s10 => ?_)
          have hJ_s10 : yx_J s10 := by rw [e_s10]; exact (yx_u hJ_r9 (by decide))
          refine xw_iinc5 dy_inner_196 ic_0_1 (Nat.le_of_ble_eq_true rfl) rfl ?_
          refine xw_goto dy_inner_199 rfl ?_
          refine xw_iload5 dy_inner_156 ?_
          refine xw_iload2 dy_inner_158 ?_
          refine xw_icmp_ge_f dy_inner_159 rfl (by decide) ?_
          refine xw_aload0 dy_inner_162 ?_
          refine xw_cVi dy_inner_163 (lk_y_inner_163 (xl_n hn (by decide)) rfl) ok_y_isRaised (my_isRaised hl hn) ⟨Nat.le_of_ble_eq_true rfl, Nat.le_of_ble_eq_true rfl⟩ ?_
          refine xw_if_ne' dy_inner_166 rfl (fun h11 => ?_) (fun h11 => ?_)
          · refine xw_aload0 dy_inner_202 ?_
            refine xw_cVi dy_inner_203 (lk_y_inner_203 (xl_n hn (by decide)) rfl) ok_y_isRaised (my_isRaised hl hn) ⟨Nat.le_of_ble_eq_true rfl, Nat.le_of_ble_eq_true rfl⟩ ?_
            refine xw_if_eq_f dy_inner_206 rfl h11 ?_
            exact xw_vret dy_inner_209 rfl
          · refine xw_aload0 dy_inner_169 ?_
            refine xw_getR dy_inner_170 fl_y_42 (xl_n hn (by decide)) rfl r_18_18 ?_
            refine xw_iload5 dy_inner_173 ?_
            refine xw_aload0 dy_inner_175 ?_
            refine xw_iconst dy_inner_176 ki_1 ?_
            refine xw_aload0 dy_inner_177 ?_
            refine xw_getR dy_inner_178 fl_y_13 (xl_n hn (by decide)) rfl r_18_5 ?_
            refine xw_bipush dy_inner_181 kb_18 ?_
            refine xw_iald dy_inner_183 (xl_n hn (by decide)) rfl vc_18_26 cn_18 ?_
            refine xw_iconst dy_inner_184 ki_2 ?_
            refine xw_iload5 dy_inner_185 ?_
            refine xw_imul dy_inner_187 ?_
            refine xw_iadd dy_inner_188 ?_
            refine xw_ldc dy_inner_189 kc_y_97 ?_
            refine xw_iand dy_inner_191 ?_
            refine xw_cPi dy_inner_192 (lk_y_inner_192 (xl_n hn (by decide)) rfl) ok_y_segmentWord (my_segmentWord hl hn vc_1_3 hJ_s10) ⟨Nat.le_of_ble_eq_true rfl, Nat.le_of_ble_eq_true rfl⟩ ?_
            refine xw_lpi (fun r12 e_r12 => ?_)
            have hJ_r12 : yx_J r12.2 := by rw [e_r12]; exact (jy_segmentWord vc_1_3 hJ_s10)
            refine xw_iast dy_inner_195 (by decide) (xl_n hn (by decide)) rfl vc_1_8 cn_1 ?_
            refine xw_lw (fun s13 e_s13 => ?_)
            have hJ_s13 : yx_J s13 := by rw [e_s13]; exact (yx_u hJ_r12 (by decide))
            refine xw_iinc5 dy_inner_196 ic_1_1 (Nat.le_of_ble_eq_true rfl) rfl ?_
            refine xw_goto dy_inner_199 rfl ?_
            refine xw_iload5 dy_inner_156 ?_
            refine xw_iload2 dy_inner_158 ?_
            refine xw_icmp_ge_f dy_inner_159 rfl (by decide) ?_
            refine xw_aload0 dy_inner_162 ?_
            refine xw_cVi dy_inner_163 (lk_y_inner_163 (xl_n hn (by decide)) rfl) ok_y_isRaised (my_isRaised hl hn) ⟨Nat.le_of_ble_eq_true rfl, Nat.le_of_ble_eq_true rfl⟩ ?_
            refine xw_if_ne' dy_inner_166 rfl (fun h14 => ?_) (fun h14 => ?_)
            · refine xw_aload0 dy_inner_202 ?_
              refine xw_cVi dy_inner_203 (lk_y_inner_203 (xl_n hn (by decide)) rfl) ok_y_isRaised (my_isRaised hl hn) ⟨Nat.le_of_ble_eq_true rfl, Nat.le_of_ble_eq_true rfl⟩ ?_
              refine xw_if_eq_f dy_inner_206 rfl h14 ?_
              exact xw_vret dy_inner_209 rfl
            · refine xw_aload0 dy_inner_169 ?_
              refine xw_getR dy_inner_170 fl_y_42 (xl_n hn (by decide)) rfl r_18_18 ?_
              refine xw_iload5 dy_inner_173 ?_
              refine xw_aload0 dy_inner_175 ?_
              refine xw_iconst dy_inner_176 ki_1 ?_
              refine xw_aload0 dy_inner_177 ?_
              refine xw_getR dy_inner_178 fl_y_13 (xl_n hn (by decide)) rfl r_18_5 ?_
              refine xw_bipush dy_inner_181 kb_18 ?_
              refine xw_iald dy_inner_183 (xl_n hn (by decide)) rfl vc_18_26 cn_18 ?_
              refine xw_iconst dy_inner_184 ki_2 ?_
              refine xw_iload5 dy_inner_185 ?_
              refine xw_imul dy_inner_187 ?_
              refine xw_iadd dy_inner_188 ?_
              refine xw_ldc dy_inner_189 kc_y_97 ?_
              refine xw_iand dy_inner_191 ?_
              refine xw_cPi dy_inner_192 (lk_y_inner_192 (xl_n hn (by decide)) rfl) ok_y_segmentWord (my_segmentWord hl hn vc_1_3 hJ_s13) ⟨Nat.le_of_ble_eq_true rfl, Nat.le_of_ble_eq_true rfl⟩ ?_
              refine xw_lpi (fun r15 e_r15 => ?_)
              have hJ_r15 : yx_J r15.2 := by rw [e_r15]; exact (jy_segmentWord vc_1_3 hJ_s13)
              refine xw_iast dy_inner_195 (by decide) (xl_n hn (by decide)) rfl vc_2_8 cn_2 ?_
              refine xw_lw (fun s16 e_s16 => ?_)
              have hJ_s16 : yx_J s16 := by rw [e_s16]; exact (yx_u hJ_r15 (by decide))
              refine xw_iinc5 dy_inner_196 ic_2_1 (Nat.le_of_ble_eq_true rfl) rfl ?_
              refine xw_goto dy_inner_199 rfl ?_
              refine xw_iload5 dy_inner_156 ?_
              refine xw_iload2 dy_inner_158 ?_
              refine xw_icmp_ge_f dy_inner_159 rfl (by decide) ?_
              refine xw_aload0 dy_inner_162 ?_
              refine xw_cVi dy_inner_163 (lk_y_inner_163 (xl_n hn (by decide)) rfl) ok_y_isRaised (my_isRaised hl hn) ⟨Nat.le_of_ble_eq_true rfl, Nat.le_of_ble_eq_true rfl⟩ ?_
              refine xw_if_ne' dy_inner_166 rfl (fun h17 => ?_) (fun h17 => ?_)
              · refine xw_aload0 dy_inner_202 ?_
                refine xw_cVi dy_inner_203 (lk_y_inner_203 (xl_n hn (by decide)) rfl) ok_y_isRaised (my_isRaised hl hn) ⟨Nat.le_of_ble_eq_true rfl, Nat.le_of_ble_eq_true rfl⟩ ?_
                refine xw_if_eq_f dy_inner_206 rfl h17 ?_
                exact xw_vret dy_inner_209 rfl
              · refine xw_aload0 dy_inner_169 ?_
                refine xw_getR dy_inner_170 fl_y_42 (xl_n hn (by decide)) rfl r_18_18 ?_
                refine xw_iload5 dy_inner_173 ?_
                refine xw_aload0 dy_inner_175 ?_
                refine xw_iconst dy_inner_176 ki_1 ?_
                refine xw_aload0 dy_inner_177 ?_
                refine xw_getR dy_inner_178 fl_y_13 (xl_n hn (by decide)) rfl r_18_5 ?_
                refine xw_bipush dy_inner_181 kb_18 ?_
                refine xw_iald dy_inner_183 (xl_n hn (by decide)) rfl vc_18_26 cn_18 ?_
                refine xw_iconst dy_inner_184 ki_2 ?_
                refine xw_iload5 dy_inner_185 ?_
                refine xw_imul dy_inner_187 ?_
                refine xw_iadd dy_inner_188 ?_
                refine xw_ldc dy_inner_189 kc_y_97 ?_
                refine xw_iand dy_inner_191 ?_
                refine xw_cPi dy_inner_192 (lk_y_inner_192 (xl_n hn (by decide)) rfl) ok_y_segmentWord (my_segmentWord hl hn vc_1_3 hJ_s16) ⟨Nat.le_of_ble_eq_true rfl, Nat.le_of_ble_eq_true rfl⟩ ?_
                refine xw_lpi (fun r18 e_r18 => ?_)
                have hJ_r18 : yx_J r18.2 := by rw [e_r18]; exact (jy_segmentWord vc_1_3 hJ_s16)
                refine xw_iast dy_inner_195 (by decide) (xl_n hn (by decide)) rfl vc_3_8 cn_3 ?_
                refine xw_lw (fun s19 e_s19 => ?_)
                have hJ_s19 : yx_J s19 := by rw [e_s19]; exact (yx_u hJ_r18 (by decide))
                refine xw_iinc5 dy_inner_196 ic_3_1 (Nat.le_of_ble_eq_true rfl) rfl ?_
                refine xw_goto dy_inner_199 rfl ?_
                refine xw_iload5 dy_inner_156 ?_
                refine xw_iload2 dy_inner_158 ?_
                refine xw_icmp_ge_f dy_inner_159 rfl (by decide) ?_
                refine xw_aload0 dy_inner_162 ?_
                refine xw_cVi dy_inner_163 (lk_y_inner_163 (xl_n hn (by decide)) rfl) ok_y_isRaised (my_isRaised hl hn) ⟨Nat.le_of_ble_eq_true rfl, Nat.le_of_ble_eq_true rfl⟩ ?_
                refine xw_if_ne' dy_inner_166 rfl (fun h20 => ?_) (fun h20 => ?_)
                · refine xw_aload0 dy_inner_202 ?_
                  refine xw_cVi dy_inner_203 (lk_y_inner_203 (xl_n hn (by decide)) rfl) ok_y_isRaised (my_isRaised hl hn) ⟨Nat.le_of_ble_eq_true rfl, Nat.le_of_ble_eq_true rfl⟩ ?_
                  refine xw_if_eq_f dy_inner_206 rfl h20 ?_
                  exact xw_vret dy_inner_209 rfl
                · refine xw_aload0 dy_inner_169 ?_
                  refine xw_getR dy_inner_170 fl_y_42 (xl_n hn (by decide)) rfl r_18_18 ?_
                  refine xw_iload5 dy_inner_173 ?_
                  refine xw_aload0 dy_inner_175 ?_
                  refine xw_iconst dy_inner_176 ki_1 ?_
                  refine xw_aload0 dy_inner_177 ?_
                  refine xw_getR dy_inner_178 fl_y_13 (xl_n hn (by decide)) rfl r_18_5 ?_
                  refine xw_bipush dy_inner_181 kb_18 ?_
                  refine xw_iald dy_inner_183 (xl_n hn (by decide)) rfl vc_18_26 cn_18 ?_
                  refine xw_iconst dy_inner_184 ki_2 ?_
                  refine xw_iload5 dy_inner_185 ?_
                  refine xw_imul dy_inner_187 ?_
                  refine xw_iadd dy_inner_188 ?_
                  refine xw_ldc dy_inner_189 kc_y_97 ?_
                  refine xw_iand dy_inner_191 ?_
                  refine xw_cPi dy_inner_192 (lk_y_inner_192 (xl_n hn (by decide)) rfl) ok_y_segmentWord (my_segmentWord hl hn vc_1_3 hJ_s19) ⟨Nat.le_of_ble_eq_true rfl, Nat.le_of_ble_eq_true rfl⟩ ?_
                  refine xw_lpi (fun r21 e_r21 => ?_)
                  have hJ_r21 : yx_J r21.2 := by rw [e_r21]; exact (jy_segmentWord vc_1_3 hJ_s19)
                  refine xw_iast dy_inner_195 (by decide) (xl_n hn (by decide)) rfl vc_4_8 cn_4 ?_
                  refine xw_lw (fun s22 e_s22 => ?_)
                  have hJ_s22 : yx_J s22 := by rw [e_s22]; exact (yx_u hJ_r21 (by decide))
                  refine xw_iinc5 dy_inner_196 ic_4_1 (Nat.le_of_ble_eq_true rfl) rfl ?_
                  refine xw_goto dy_inner_199 rfl ?_
                  refine xw_iload5 dy_inner_156 ?_
                  refine xw_iload2 dy_inner_158 ?_
                  refine xw_icmp_ge_f dy_inner_159 rfl (by decide) ?_
                  refine xw_aload0 dy_inner_162 ?_
                  refine xw_cVi dy_inner_163 (lk_y_inner_163 (xl_n hn (by decide)) rfl) ok_y_isRaised (my_isRaised hl hn) ⟨Nat.le_of_ble_eq_true rfl, Nat.le_of_ble_eq_true rfl⟩ ?_
                  refine xw_if_ne' dy_inner_166 rfl (fun h23 => ?_) (fun h23 => ?_)
                  · refine xw_aload0 dy_inner_202 ?_
                    refine xw_cVi dy_inner_203 (lk_y_inner_203 (xl_n hn (by decide)) rfl) ok_y_isRaised (my_isRaised hl hn) ⟨Nat.le_of_ble_eq_true rfl, Nat.le_of_ble_eq_true rfl⟩ ?_
                    refine xw_if_eq_f dy_inner_206 rfl h23 ?_
                    exact xw_vret dy_inner_209 rfl
                  · refine xw_aload0 dy_inner_169 ?_
                    refine xw_getR dy_inner_170 fl_y_42 (xl_n hn (by decide)) rfl r_18_18 ?_
                    refine xw_iload5 dy_inner_173 ?_
                    refine xw_aload0 dy_inner_175 ?_
                    refine xw_iconst dy_inner_176 ki_1 ?_
                    refine xw_aload0 dy_inner_177 ?_
                    refine xw_getR dy_inner_178 fl_y_13 (xl_n hn (by decide)) rfl r_18_5 ?_
                    refine xw_bipush dy_inner_181 kb_18 ?_
                    refine xw_iald dy_inner_183 (xl_n hn (by decide)) rfl vc_18_26 cn_18 ?_
                    refine xw_iconst dy_inner_184 ki_2 ?_
                    refine xw_iload5 dy_inner_185 ?_
                    refine xw_imul dy_inner_187 ?_
                    refine xw_iadd dy_inner_188 ?_
                    refine xw_ldc dy_inner_189 kc_y_97 ?_
                    refine xw_iand dy_inner_191 ?_
                    refine xw_cPi dy_inner_192 (lk_y_inner_192 (xl_n hn (by decide)) rfl) ok_y_segmentWord (my_segmentWord hl hn vc_1_3 hJ_s22) ⟨Nat.le_of_ble_eq_true rfl, Nat.le_of_ble_eq_true rfl⟩ ?_
                    refine xw_lpi (fun r24 e_r24 => ?_)
                    have hJ_r24 : yx_J r24.2 := by rw [e_r24]; exact (jy_segmentWord vc_1_3 hJ_s22)
                    refine xw_iast dy_inner_195 (by decide) (xl_n hn (by decide)) rfl vc_5_8 cn_5 ?_
                    refine xw_lw (fun s25 e_s25 => ?_)
                    have hJ_s25 : yx_J s25 := by rw [e_s25]; exact (yx_u hJ_r24 (by decide))
                    refine xw_iinc5 dy_inner_196 ic_5_1 (Nat.le_of_ble_eq_true rfl) rfl ?_
                    refine xw_goto dy_inner_199 rfl ?_
                    refine xw_iload5 dy_inner_156 ?_
                    refine xw_iload2 dy_inner_158 ?_
                    refine xw_icmp_ge_t dy_inner_159 rfl (by decide) ?_
                    refine xw_aload0 dy_inner_202 ?_
                    refine xw_cVi dy_inner_203 (lk_y_inner_203 (xl_n hn (by decide)) rfl) ok_y_isRaised (my_isRaised hl hn) ⟨Nat.le_of_ble_eq_true rfl, Nat.le_of_ble_eq_true rfl⟩ ?_
                    refine xw_if_eq' dy_inner_206 rfl (fun h26 => ?_) (fun h26 => ?_)
                    · refine xw_aload0 dy_inner_210 ?_
                      refine xw_getR dy_inner_211 fl_y_13 (xl_n hn (by decide)) rfl r_18_5 ?_
                      refine xw_iconst dy_inner_214 ki_1 ?_
                      refine xw_iald dy_inner_215 (xl_n hn (by decide)) rfl vc_1_26 cn_1 ?_
                      refine xw_li (fun v27 e_v27 => ?_)
                      refine xw_istore5 dy_inner_216 (Nat.le_of_ble_eq_true rfl) rfl ?_
                      refine xw_aload0 dy_inner_218 ?_
                      refine xw_getR dy_inner_219 fl_y_13 (xl_n hn (by decide)) rfl r_18_5 ?_
                      refine xw_bipush dy_inner_222 kb_18 ?_
                      refine xw_iald dy_inner_224 (xl_n hn (by decide)) rfl vc_18_26 cn_18 ?_
                      refine xw_li (fun v28 e_v28 => ?_)
                      refine xw_istore6 dy_inner_225 (Nat.le_of_ble_eq_true rfl) rfl ?_
                      refine xw_aload0 dy_inner_227 ?_
                      refine xw_getR dy_inner_228 fl_y_13 (xl_n hn (by decide)) rfl r_18_5 ?_
                      refine xw_bipush dy_inner_231 kb_21 ?_
                      refine xw_iload1 dy_inner_233 ?_
                      refine xw_iast dy_inner_234 (by decide) (xl_n hn (by decide)) rfl vc_21_26 cn_21 ?_
                      refine xw_lw (fun s29 e_s29 => ?_)
                      have hJ_s29 : yx_J s29 := by rw [e_s29]; exact (yx_u hJ_s25 (by decide))
                      refine xw_aload0 dy_inner_235 ?_
                      refine xw_iconst dy_inner_236 ki_1 ?_
                      refine xw_iload4 dy_inner_237 ?_
                      refine xw_iconst dy_inner_239 ki_1 ?_
                      refine xw_cW dy_inner_240 (lk_y_inner_240 (xl_n hn (by decide)) rfl) ok_y_setSegment (my_setSegment hl hn vc_1_3 vc_1_2) ⟨Nat.le_of_ble_eq_true rfl, Nat.le_of_ble_eq_true rfl⟩ ?_
                      refine xw_lw (fun s30 e_s30 => ?_)
                      have hJ_s30 : yx_J s30 := by rw [e_s30]; exact (jy_setSegment vc_1_3 vc_1_2 hJ_s29)
                      refine xw_aload0 dy_inner_243 ?_
                      refine xw_getR dy_inner_244 fl_y_13 (xl_n hn (by decide)) rfl r_18_5 ?_
                      refine xw_bipush dy_inner_247 kb_18 ?_
                      refine xw_iload3 dy_inner_249 ?_
                      refine xw_iast dy_inner_250 (by decide) (xl_n hn (by decide)) rfl vc_18_26 cn_18 ?_
                      refine xw_lw (fun s31 e_s31 => ?_)
                      have hJ_s31 : yx_J s31 := by rw [e_s31]; exact (yx_u hJ_s30 (by decide))
                      refine xw_aload0 dy_inner_251 ?_
                      refine xw_iload5 dy_inner_252 ?_
                      refine xw_cW dy_inner_254 (lk_y_inner_254 (xl_n hn (by decide)) rfl) ok_y_pushWord (my_pushWord hl hn hJ_s31) ⟨Nat.le_of_ble_eq_true rfl, Nat.le_of_ble_eq_true rfl⟩ ?_
                      refine xw_lw (fun s32 e_s32 => ?_)
                      have hJ_s32 : yx_J s32 := by rw [e_s32]; exact (jy_pushWord hJ_s31)
                      refine xw_aload0 dy_inner_257 ?_
                      refine xw_iload6 dy_inner_258 ?_
                      refine xw_cW dy_inner_260 (lk_y_inner_260 (xl_n hn (by decide)) rfl) ok_y_pushWord (my_pushWord hl hn hJ_s32) ⟨Nat.le_of_ble_eq_true rfl, Nat.le_of_ble_eq_true rfl⟩ ?_
                      refine xw_lw (fun s33 e_s33 => ?_)
                      have hJ_s33 : yx_J s33 := by rw [e_s33]; exact (jy_pushWord hJ_s32)
                      refine xw_iload2 dy_inner_263 ?_
                      refine xw_iconst dy_inner_264 ki_1 ?_
                      refine xw_isubc dy_inner_265 sb_6_1 ?_
                      refine xw_istore7 dy_inner_266 (Nat.le_of_ble_eq_true rfl) rfl ?_
                      refine xw_iload7 dy_inner_268 ?_
                      refine xw_if_lt_f dy_inner_270 rfl (by decide) ?_
                      refine xw_aload0 dy_inner_273 ?_
                      refine xw_aload0 dy_inner_274 ?_
                      refine xw_getR dy_inner_275 fl_y_42 (xl_n hn (by decide)) rfl r_18_18 ?_
                      refine xw_iload7 dy_inner_278 ?_
                      refine xw_iald dy_inner_280 (xl_n hn (by decide)) rfl vc_5_8 cn_5 ?_
                      refine xw_cW dy_inner_281 (lk_y_inner_281 (xl_n hn (by decide)) rfl) ok_y_pushWord (my_pushWord hl hn hJ_s33) ⟨Nat.le_of_ble_eq_true rfl, Nat.le_of_ble_eq_true rfl⟩ ?_
                      refine xw_lw (fun s34 e_s34 => ?_)
                      have hJ_s34 : yx_J s34 := by rw [e_s34]; exact (jy_pushWord hJ_s33)
                      refine xw_iinc7 dy_inner_284 ic_5_m1 (Nat.le_of_ble_eq_true rfl) rfl ?_
                      refine xw_goto dy_inner_287 rfl ?_
                      refine xw_iload7 dy_inner_268 ?_
                      refine xw_if_lt_f dy_inner_270 rfl (by decide) ?_
                      refine xw_aload0 dy_inner_273 ?_
                      refine xw_aload0 dy_inner_274 ?_
                      refine xw_getR dy_inner_275 fl_y_42 (xl_n hn (by decide)) rfl r_18_18 ?_
                      refine xw_iload7 dy_inner_278 ?_
                      refine xw_iald dy_inner_280 (xl_n hn (by decide)) rfl vc_4_8 cn_4 ?_
                      refine xw_cW dy_inner_281 (lk_y_inner_281 (xl_n hn (by decide)) rfl) ok_y_pushWord (my_pushWord hl hn hJ_s34) ⟨Nat.le_of_ble_eq_true rfl, Nat.le_of_ble_eq_true rfl⟩ ?_
                      refine xw_lw (fun s35 e_s35 => ?_)
                      have hJ_s35 : yx_J s35 := by rw [e_s35]; exact (jy_pushWord hJ_s34)
                      refine xw_iinc7 dy_inner_284 ic_4_m1 (Nat.le_of_ble_eq_true rfl) rfl ?_
                      refine xw_goto dy_inner_287 rfl ?_
                      refine xw_iload7 dy_inner_268 ?_
                      refine xw_if_lt_f dy_inner_270 rfl (by decide) ?_
                      refine xw_aload0 dy_inner_273 ?_
                      refine xw_aload0 dy_inner_274 ?_
                      refine xw_getR dy_inner_275 fl_y_42 (xl_n hn (by decide)) rfl r_18_18 ?_
                      refine xw_iload7 dy_inner_278 ?_
                      refine xw_iald dy_inner_280 (xl_n hn (by decide)) rfl vc_3_8 cn_3 ?_
                      refine xw_cW dy_inner_281 (lk_y_inner_281 (xl_n hn (by decide)) rfl) ok_y_pushWord (my_pushWord hl hn hJ_s35) ⟨Nat.le_of_ble_eq_true rfl, Nat.le_of_ble_eq_true rfl⟩ ?_
                      refine xw_lw (fun s36 e_s36 => ?_)
                      have hJ_s36 : yx_J s36 := by rw [e_s36]; exact (jy_pushWord hJ_s35)
                      refine xw_iinc7 dy_inner_284 ic_3_m1 (Nat.le_of_ble_eq_true rfl) rfl ?_
                      refine xw_goto dy_inner_287 rfl ?_
                      refine xw_iload7 dy_inner_268 ?_
                      refine xw_if_lt_f dy_inner_270 rfl (by decide) ?_
                      refine xw_aload0 dy_inner_273 ?_
                      refine xw_aload0 dy_inner_274 ?_
                      refine xw_getR dy_inner_275 fl_y_42 (xl_n hn (by decide)) rfl r_18_18 ?_
                      refine xw_iload7 dy_inner_278 ?_
                      refine xw_iald dy_inner_280 (xl_n hn (by decide)) rfl vc_2_8 cn_2 ?_
                      refine xw_cW dy_inner_281 (lk_y_inner_281 (xl_n hn (by decide)) rfl) ok_y_pushWord (my_pushWord hl hn hJ_s36) ⟨Nat.le_of_ble_eq_true rfl, Nat.le_of_ble_eq_true rfl⟩ ?_
                      refine xw_lw (fun s37 e_s37 => ?_)
                      have hJ_s37 : yx_J s37 := by rw [e_s37]; exact (jy_pushWord hJ_s36)
                      refine xw_iinc7 dy_inner_284 ic_2_m1 (Nat.le_of_ble_eq_true rfl) rfl ?_
                      refine xw_goto dy_inner_287 rfl ?_
                      refine xw_iload7 dy_inner_268 ?_
                      refine xw_if_lt_f dy_inner_270 rfl (by decide) ?_
                      refine xw_aload0 dy_inner_273 ?_
                      refine xw_aload0 dy_inner_274 ?_
                      refine xw_getR dy_inner_275 fl_y_42 (xl_n hn (by decide)) rfl r_18_18 ?_
                      refine xw_iload7 dy_inner_278 ?_
                      refine xw_iald dy_inner_280 (xl_n hn (by decide)) rfl vc_1_8 cn_1 ?_
                      refine xw_cW dy_inner_281 (lk_y_inner_281 (xl_n hn (by decide)) rfl) ok_y_pushWord (my_pushWord hl hn hJ_s37) ⟨Nat.le_of_ble_eq_true rfl, Nat.le_of_ble_eq_true rfl⟩ ?_
                      refine xw_lw (fun s38 e_s38 => ?_)
                      have hJ_s38 : yx_J s38 := by rw [e_s38]; exact (jy_pushWord hJ_s37)
                      refine xw_iinc7 dy_inner_284 ic_1_m1 (Nat.le_of_ble_eq_true rfl) rfl ?_
                      refine xw_goto dy_inner_287 rfl ?_
                      refine xw_iload7 dy_inner_268 ?_
                      refine xw_if_lt_f dy_inner_270 rfl (by decide) ?_
                      refine xw_aload0 dy_inner_273 ?_
                      refine xw_aload0 dy_inner_274 ?_
                      refine xw_getR dy_inner_275 fl_y_42 (xl_n hn (by decide)) rfl r_18_18 ?_
                      refine xw_iload7 dy_inner_278 ?_
                      refine xw_iald dy_inner_280 (xl_n hn (by decide)) rfl vc_0_8 cn_0 ?_
                      refine xw_cW dy_inner_281 (lk_y_inner_281 (xl_n hn (by decide)) rfl) ok_y_pushWord (my_pushWord hl hn hJ_s38) ⟨Nat.le_of_ble_eq_true rfl, Nat.le_of_ble_eq_true rfl⟩ ?_
                      refine xw_lw (fun s39 e_s39 => ?_)
                      have hJ_s39 : yx_J s39 := by rw [e_s39]; exact (jy_pushWord hJ_s38)
                      refine xw_iinc7 dy_inner_284 ic_0_m1 (Nat.le_of_ble_eq_true rfl) rfl ?_
                      refine xw_goto dy_inner_287 rfl ?_
                      refine xw_iload7 dy_inner_268 ?_
                      refine xw_if_lt_t dy_inner_270 rfl (by decide) ?_
                      exact xw_vret dy_inner_290 rfl
                    · exact xw_vret dy_inner_209 rfl
      · exact xw_vret dy_inner_90 rfl
    · exact xw_vret dy_inner_57 rfl
  · refine xw_iconst dy_inner_26 ki_0 ?_
    refine xw_goto dy_inner_27 rfl ?_
    refine xw_istore4 dy_inner_48 (Nat.le_of_ble_eq_true rfl) rfl ?_
    refine xw_aload0 dy_inner_50 ?_
    refine xw_cVi dy_inner_51 (lk_y_inner_51 (xl_n hn (by decide)) rfl) ok_y_isRaised (my_isRaised hl hn) ⟨Nat.le_of_ble_eq_true rfl, Nat.le_of_ble_eq_true rfl⟩ ?_
    refine xw_if_eq_f dy_inner_54 rfl h2 ?_
    exact xw_vret dy_inner_57 rfl
theorem jy_inner_6 {a1 : Int32} {σ : xs_S} (hJ : yx_J σ) : yx_J (fy_inner_6 a1 σ) := by
  unfold fy_inner_6
  refine xj_wl (fun r1 e_r1 => ?_)
  have hJ_r1 : yx_J r1.2 := by rw [e_r1]; exact (jy_readWord hJ)
  refine xj_wf (fun h2 => ?_) (fun h2 => ?_)
  · refine xj_wl (fun r3 e_r3 => ?_)
    have hJ_r3 : yx_J r3.2 := by rw [e_r3]; exact (jy_readWord hJ_r1)
    refine xj_wf (fun h4 => ?_) (fun h4 => ?_)
    · refine xj_wl (fun s5 e_s5 => ?_)
      have hJ_s5 : yx_J s5 := by rw [e_s5]; exact (xj_i (fun _ => (jy_lookUp vc_1_2 hJ_r3)) (fun _ => (jy_raise hJ_r3)))
      refine xj_wf (fun h6 => ?_) (fun h6 => ?_)
      · refine xj_wl (fun s7 e_s7 => ?_)
        have hJ_s7 : yx_J s7 := by rw [e_s7]; exact (xj_i (fun _ => (xj_i (fun _ => (xj_i (fun _ => (xj_i (fun _ => (jy_raise hJ_s5)) (fun _ => hJ_s5))) (fun _ => (jy_raise hJ_s5)))) (fun _ => (jy_raise hJ_s5)))) (fun _ => (jy_raise hJ_s5)))
        refine xj_wf (fun h8 => ?_) (fun h8 => ?_)
        · refine xj_wl (fun r9 e_r9 => ?_)
          have hJ_r9 : yx_J r9.2 := by rw [e_r9]; exact (jy_segmentWord vc_1_3 hJ_s7)
          refine xj_wl (fun s10 e_s10 => ?_)
          have hJ_s10 : yx_J s10 := by rw [e_s10]; exact (yx_u hJ_r9 (by decide))
          refine xj_wf (fun h11 => ?_) (fun h11 => ?_)
          · refine xj_wl (fun r12 e_r12 => ?_)
            have hJ_r12 : yx_J r12.2 := by rw [e_r12]; exact (jy_segmentWord vc_1_3 hJ_s10)
            refine xj_wl (fun s13 e_s13 => ?_)
            have hJ_s13 : yx_J s13 := by rw [e_s13]; exact (yx_u hJ_r12 (by decide))
            refine xj_wf (fun h14 => ?_) (fun h14 => ?_)
            · refine xj_wl (fun r15 e_r15 => ?_)
              have hJ_r15 : yx_J r15.2 := by rw [e_r15]; exact (jy_segmentWord vc_1_3 hJ_s13)
              refine xj_wl (fun s16 e_s16 => ?_)
              have hJ_s16 : yx_J s16 := by rw [e_s16]; exact (yx_u hJ_r15 (by decide))
              refine xj_wf (fun h17 => ?_) (fun h17 => ?_)
              · refine xj_wl (fun r18 e_r18 => ?_)
                have hJ_r18 : yx_J r18.2 := by rw [e_r18]; exact (jy_segmentWord vc_1_3 hJ_s16)
                refine xj_wl (fun s19 e_s19 => ?_)
                have hJ_s19 : yx_J s19 := by rw [e_s19]; exact (yx_u hJ_r18 (by decide))
                refine xj_wf (fun h20 => ?_) (fun h20 => ?_)
                · refine xj_wl (fun r21 e_r21 => ?_)
                  have hJ_r21 : yx_J r21.2 := by rw [e_r21]; exact (jy_segmentWord vc_1_3 hJ_s19)
                  refine xj_wl (fun s22 e_s22 => ?_)
                  have hJ_s22 : yx_J s22 := by rw [e_s22]; exact (yx_u hJ_r21 (by decide))
                  refine xj_wf (fun h23 => ?_) (fun h23 => ?_)
                  · refine xj_wl (fun r24 e_r24 => ?_)
                    have hJ_r24 : yx_J r24.2 := by rw [e_r24]; exact (jy_segmentWord vc_1_3 hJ_s22)
                    refine xj_wl (fun s25 e_s25 => ?_)
                    have hJ_s25 : yx_J s25 := by rw [e_s25]; exact (yx_u hJ_r24 (by decide))
                    refine xj_wf (fun h26 => ?_) (fun h26 => ?_)
                    · refine xj_wl (fun v27 e_v27 => ?_)
                      refine xj_wl (fun v28 e_v28 => ?_)
                      refine xj_wl (fun s29 e_s29 => ?_)
                      have hJ_s29 : yx_J s29 := by rw [e_s29]; exact (yx_u hJ_s25 (by decide))
                      refine xj_wl (fun s30 e_s30 => ?_)
                      have hJ_s30 : yx_J s30 := by rw [e_s30]; exact (jy_setSegment vc_1_3 vc_1_2 hJ_s29)
                      refine xj_wl (fun s31 e_s31 => ?_)
                      have hJ_s31 : yx_J s31 := by rw [e_s31]; exact (yx_u hJ_s30 (by decide))
                      refine xj_wl (fun s32 e_s32 => ?_)
                      have hJ_s32 : yx_J s32 := by rw [e_s32]; exact (jy_pushWord hJ_s31)
                      refine xj_wl (fun s33 e_s33 => ?_)
                      have hJ_s33 : yx_J s33 := by rw [e_s33]; exact (jy_pushWord hJ_s32)
                      refine xj_wl (fun s34 e_s34 => ?_)
                      have hJ_s34 : yx_J s34 := by rw [e_s34]; exact (jy_pushWord hJ_s33)
                      refine xj_wl (fun s35 e_s35 => ?_)
                      have hJ_s35 : yx_J s35 := by rw [e_s35]; exact (jy_pushWord hJ_s34)
                      refine xj_wl (fun s36 e_s36 => ?_)
                      have hJ_s36 : yx_J s36 := by rw [e_s36]; exact (jy_pushWord hJ_s35)
                      refine xj_wl (fun s37 e_s37 => ?_)
                      have hJ_s37 : yx_J s37 := by rw [e_s37]; exact (jy_pushWord hJ_s36)
                      refine xj_wl (fun s38 e_s38 => ?_)
                      have hJ_s38 : yx_J s38 := by rw [e_s38]; exact (jy_pushWord hJ_s37)
                      refine xj_wl (fun s39 e_s39 => ?_)
                      have hJ_s39 : yx_J s39 := by rw [e_s39]; exact (jy_pushWord hJ_s38)
                      exact hJ_s39
                    · exact hJ_s25
                  · exact hJ_s22
                · exact hJ_s19
              · exact hJ_s16
            · exact hJ_s13
          · exact hJ_s10
        · exact hJ_s7
      · exact hJ_s5
    · exact hJ_r3
  · exact hJ_r1
def fy_inner_7 (a1 : Int32) (σ : xs_S) : xs_S := xl_l (fy_readWord (((σ 20 23) + ((4 : Int32) * a1)) + (2 : Int32)) (1 : Int32) σ) (fun r1 => (if (fy_isRaised r1.2) = 0 then xl_l (fy_readWord (((r1.2 20 23) + ((4 : Int32) * a1)) + (4 : Int32)) (1 : Int32) r1.2) (fun r3 => (if (fy_isRaised r3.2) = 0 then xl_l ((if (fy_isNull r3.1 r3.2) = 0 then (fy_lookUp r3.1 (1 : Int32) r3.2) else (fy_raise (10 : Int32) (0 : Int32) r3.2))) (fun s5 => (if (fy_isRaised s5) = 0 then xl_l ((if (s5 24 1) = (4 : Int32) then (if (s5 25 1) = a1 then (if (r3.1 &&& (3 : Int32)) = a1 then (if (s5 26 1) = 0 then (fy_raise (12 : Int32) (fy_codeOf r3.1 s5) s5) else s5) else (fy_raise (10 : Int32) (fy_codeOf r3.1 s5) s5)) else (fy_raise (10 : Int32) (fy_codeOf r3.1 s5) s5)) else (fy_raise (10 : Int32) (fy_codeOf r3.1 s5) s5))) (fun s7 => (if (fy_isRaised s7) = 0 then xl_l (fy_segmentWord (1 : Int32) (((s7 20 18) + ((2 : Int32) * (0 : Int32))) &&& (65535 : Int32)) s7) (fun r9 => xl_l ((xu_u r9.2 28 0 r9.1)) (fun s10 => (if (fy_isRaised s10) = 0 then xl_l (fy_segmentWord (1 : Int32) (((s10 20 18) + ((2 : Int32) * (1 : Int32))) &&& (65535 : Int32)) s10) (fun r12 => xl_l ((xu_u r12.2 28 1 r12.1)) (fun s13 => (if (fy_isRaised s13) = 0 then xl_l (fy_segmentWord (1 : Int32) (((s13 20 18) + ((2 : Int32) * (2 : Int32))) &&& (65535 : Int32)) s13) (fun r15 => xl_l ((xu_u r15.2 28 2 r15.1)) (fun s16 => (if (fy_isRaised s16) = 0 then xl_l (fy_segmentWord (1 : Int32) (((s16 20 18) + ((2 : Int32) * (3 : Int32))) &&& (65535 : Int32)) s16) (fun r18 => xl_l ((xu_u r18.2 28 3 r18.1)) (fun s19 => (if (fy_isRaised s19) = 0 then xl_l (fy_segmentWord (1 : Int32) (((s19 20 18) + ((2 : Int32) * (4 : Int32))) &&& (65535 : Int32)) s19) (fun r21 => xl_l ((xu_u r21.2 28 4 r21.1)) (fun s22 => (if (fy_isRaised s22) = 0 then xl_l (fy_segmentWord (1 : Int32) (((s22 20 18) + ((2 : Int32) * (5 : Int32))) &&& (65535 : Int32)) s22) (fun r24 => xl_l ((xu_u r24.2 28 5 r24.1)) (fun s25 => (if (fy_isRaised s25) = 0 then xl_l (fy_segmentWord (1 : Int32) (((s25 20 18) + ((2 : Int32) * (6 : Int32))) &&& (65535 : Int32)) s25) (fun r27 => xl_l ((xu_u r27.2 28 6 r27.1)) (fun s28 => (if (fy_isRaised s28) = 0 then xl_l ((s28 20 1)) (fun v30 => xl_l ((s28 20 18)) (fun v31 => xl_l ((xu_u s28 20 21 a1)) (fun s32 => xl_l ((fy_setSegment (1 : Int32) r3.1 (1 : Int32) s32)) (fun s33 => xl_l ((xu_u s33 20 18 r1.1)) (fun s34 => xl_l ((fy_pushWord v30 s34)) (fun s35 => xl_l ((fy_pushWord v31 s35)) (fun s36 => xl_l ((fy_pushWord (s36 28 6) s36)) (fun s37 => xl_l ((fy_pushWord (s37 28 5) s37)) (fun s38 => xl_l ((fy_pushWord (s38 28 4) s38)) (fun s39 => xl_l ((fy_pushWord (s39 28 3) s39)) (fun s40 => xl_l ((fy_pushWord (s40 28 2) s40)) (fun s41 => xl_l ((fy_pushWord (s41 28 1) s41)) (fun s42 => xl_l ((fy_pushWord (s42 28 0) s42)) (fun s43 => s43)))))))))))))) else s28))) else s25))) else s22))) else s19))) else s16))) else s13))) else s10))) else s7)) else s5)) else r3.2)) else r1.2))
set_option maxRecDepth 100000 in
set_option maxHeartbeats 4000000 in
theorem my_inner_7 {l : Launch} {N n u : Nat} {a1 : Int32} {σ : xs_S} (hl : l.stackTraces = false) (hn : 29 ≤ n) (hJ : yx_J σ) : xm_m (xk_k N) l ty_inner [.ref 18, .int a1, .int (7 : Int32)] (n, u, σ, xr_0) (xe_w n u (fy_inner_7 a1 σ)) := by
  refine xm_of hl ok_y_inner (Nat.le_of_ble_eq_true rfl) ?_
  show xw_w (xk_k N) l ty_inner 0 [some (.ref 18), some (.int a1), some (.int (7 : Int32)), none, none, none, none, none] [] (n, u, σ, xr_0) (xe_w n u (fy_inner_7 a1 σ))
  unfold fy_inner_7
  refine xw_aload0 dy_inner_0 ?_
  refine xw_aload0 dy_inner_1 ?_
  refine xw_getR dy_inner_2 fl_y_13 (xl_n hn (by decide)) rfl r_18_5 ?_
  refine xw_bipush dy_inner_5 kb_23 ?_
  refine xw_iald dy_inner_7 (xl_n hn (by decide)) rfl vc_23_26 cn_23 ?_
  refine xw_iconst dy_inner_8 ki_4 ?_
  refine xw_iload1 dy_inner_9 ?_
  refine xw_imul dy_inner_10 ?_
  refine xw_iadd dy_inner_11 ?_
  refine xw_iconst dy_inner_12 ki_2 ?_
  refine xw_iadd dy_inner_13 ?_
  refine xw_iconst dy_inner_14 ki_1 ?_
  refine xw_cPi dy_inner_15 (lk_y_inner_15 (xl_n hn (by decide)) rfl) ok_y_readWord (my_readWord hl hn hJ) ⟨Nat.le_of_ble_eq_true rfl, Nat.le_of_ble_eq_true rfl⟩ ?_
  refine xw_lpi (fun r1 e_r1 => ?_)
  have hJ_r1 : yx_J r1.2 := by rw [e_r1]; exact (jy_readWord hJ)
  refine xw_istore3 dy_inner_18 (Nat.le_of_ble_eq_true rfl) rfl ?_
  refine xw_aload0 dy_inner_19 ?_
  refine xw_cVi dy_inner_20 (lk_y_inner_20 (xl_n hn (by decide)) rfl) ok_y_isRaised (my_isRaised hl hn) ⟨Nat.le_of_ble_eq_true rfl, Nat.le_of_ble_eq_true rfl⟩ ?_
  refine xw_if_eq' dy_inner_23 rfl (fun h2 => ?_) (fun h2 => ?_)
  · refine xw_aload0 dy_inner_30 ?_
    refine xw_aload0 dy_inner_31 ?_
    refine xw_getR dy_inner_32 fl_y_13 (xl_n hn (by decide)) rfl r_18_5 ?_
    refine xw_bipush dy_inner_35 kb_23 ?_
    refine xw_iald dy_inner_37 (xl_n hn (by decide)) rfl vc_23_26 cn_23 ?_
    refine xw_iconst dy_inner_38 ki_4 ?_
    refine xw_iload1 dy_inner_39 ?_
    refine xw_imul dy_inner_40 ?_
    refine xw_iadd dy_inner_41 ?_
    refine xw_iconst dy_inner_42 ki_4 ?_
    refine xw_iadd dy_inner_43 ?_
    refine xw_iconst dy_inner_44 ki_1 ?_
    refine xw_cPi dy_inner_45 (lk_y_inner_45 (xl_n hn (by decide)) rfl) ok_y_readWord (my_readWord hl hn hJ_r1) ⟨Nat.le_of_ble_eq_true rfl, Nat.le_of_ble_eq_true rfl⟩ ?_
    refine xw_lpi (fun r3 e_r3 => ?_)
    have hJ_r3 : yx_J r3.2 := by rw [e_r3]; exact (jy_readWord hJ_r1)
    refine xw_istore4 dy_inner_48 (Nat.le_of_ble_eq_true rfl) rfl ?_
    refine xw_aload0 dy_inner_50 ?_
    refine xw_cVi dy_inner_51 (lk_y_inner_51 (xl_n hn (by decide)) rfl) ok_y_isRaised (my_isRaised hl hn) ⟨Nat.le_of_ble_eq_true rfl, Nat.le_of_ble_eq_true rfl⟩ ?_
    refine xw_if_eq' dy_inner_54 rfl (fun h4 => ?_) (fun h4 => ?_)
    · refine xw_iload4 dy_inner_58 ?_
      refine xw_cVi dy_inner_60 (lk_y_inner_60) ok_y_isNull (my_isNull hl hn) ⟨Nat.le_of_ble_eq_true rfl, Nat.le_of_ble_eq_true rfl⟩ ?_
      refine xw_if_eq_mw (J := 83) (a := (fy_lookUp r3.1 (1 : Int32) r3.2)) (b := (fy_raise (10 : Int32) (0 : Int32) r3.2)) dy_inner_63 rfl (fun _ E' k' => ?_) (fun _ E' k' => ?_) ?_
      · refine xw_aload0 dy_inner_76 ?_
        refine xw_iload4 dy_inner_77 ?_
        refine xw_iconst dy_inner_79 ki_1 ?_
        refine xw_cW dy_inner_80 (lk_y_inner_80 (xl_n hn (by decide)) rfl) ok_y_lookUp (my_lookUp hl hn vc_1_2 hJ_r3) ⟨Nat.le_of_ble_eq_true rfl, Nat.le_of_ble_eq_true rfl⟩ ?_
        exact k'
      · refine xw_aload0 dy_inner_66 ?_
        refine xw_bipush dy_inner_67 kb_10 ?_
        refine xw_iconst dy_inner_69 ki_0 ?_
        refine xw_cW dy_inner_70 (lk_y_inner_70 (xl_n hn (by decide)) rfl) ok_y_raise (my_raise hl hn) ⟨Nat.le_of_ble_eq_true rfl, Nat.le_of_ble_eq_true rfl⟩ ?_
        refine xw_goto dy_inner_73 rfl ?_
        exact k'
      refine xw_lw (fun s5 e_s5 => ?_)
      have hJ_s5 : yx_J s5 := by rw [e_s5]; exact (xj_i (fun _ => (jy_lookUp vc_1_2 hJ_r3)) (fun _ => (jy_raise hJ_r3)))
      refine xw_aload0 dy_inner_83 ?_
      refine xw_cVi dy_inner_84 (lk_y_inner_84 (xl_n hn (by decide)) rfl) ok_y_isRaised (my_isRaised hl hn) ⟨Nat.le_of_ble_eq_true rfl, Nat.le_of_ble_eq_true rfl⟩ ?_
      refine xw_if_eq' dy_inner_87 rfl (fun h6 => ?_) (fun h6 => ?_)
      · refine xw_aload0 dy_inner_91 ?_
        refine xw_getR dy_inner_92 fl_y_29 (xl_n hn (by decide)) rfl r_18_14 ?_
        refine xw_iconst dy_inner_95 ki_1 ?_
        refine xw_iald dy_inner_96 (xl_n hn (by decide)) rfl vc_1_2 cn_1 ?_
        refine xw_iconst dy_inner_97 ki_4 ?_
        refine xw_icmp_ne_mw (J := 153) (a := (if (s5 25 1) = a1 then (if (r3.1 &&& (3 : Int32)) = a1 then (if (s5 26 1) = 0 then (fy_raise (12 : Int32) (fy_codeOf r3.1 s5) s5) else s5) else (fy_raise (10 : Int32) (fy_codeOf r3.1 s5) s5)) else (fy_raise (10 : Int32) (fy_codeOf r3.1 s5) s5))) (b := (fy_raise (10 : Int32) (fy_codeOf r3.1 s5) s5)) dy_inner_98 rfl (fun _ E' k' => ?_) (fun _ E' k' => ?_) ?_
        · refine xw_aload0 dy_inner_119 ?_
          refine xw_bipush dy_inner_120 kb_10 ?_
          refine xw_iload4 dy_inner_122 ?_
          refine xw_cVi dy_inner_124 (lk_y_inner_124) ok_y_codeOf (my_codeOf hl hn) ⟨Nat.le_of_ble_eq_true rfl, Nat.le_of_ble_eq_true rfl⟩ ?_
          refine xw_cW dy_inner_127 (lk_y_inner_127 (xl_n hn (by decide)) rfl) ok_y_raise (my_raise hl hn) ⟨Nat.le_of_ble_eq_true rfl, Nat.le_of_ble_eq_true rfl⟩ ?_
          refine xw_goto dy_inner_130 rfl ?_
          exact k'
        · refine xw_aload0 dy_inner_101 ?_
          refine xw_getR dy_inner_102 fl_y_32 (xl_n hn (by decide)) rfl r_18_15 ?_
          refine xw_iconst dy_inner_105 ki_1 ?_
          refine xw_iald dy_inner_106 (xl_n hn (by decide)) rfl vc_1_2 cn_1 ?_
          refine xw_iload1 dy_inner_107 ?_
          refine xw_icmp_ne_mw (J := 153) (a := (if (r3.1 &&& (3 : Int32)) = a1 then (if (s5 26 1) = 0 then (fy_raise (12 : Int32) (fy_codeOf r3.1 s5) s5) else s5) else (fy_raise (10 : Int32) (fy_codeOf r3.1 s5) s5))) (b := (fy_raise (10 : Int32) (fy_codeOf r3.1 s5) s5)) dy_inner_108 rfl (fun _ E' k' => ?_) (fun _ E' k' => ?_) ?_
          · refine xw_aload0 dy_inner_119 ?_
            refine xw_bipush dy_inner_120 kb_10 ?_
            refine xw_iload4 dy_inner_122 ?_
            refine xw_cVi dy_inner_124 (lk_y_inner_124) ok_y_codeOf (my_codeOf hl hn) ⟨Nat.le_of_ble_eq_true rfl, Nat.le_of_ble_eq_true rfl⟩ ?_
            refine xw_cW dy_inner_127 (lk_y_inner_127 (xl_n hn (by decide)) rfl) ok_y_raise (my_raise hl hn) ⟨Nat.le_of_ble_eq_true rfl, Nat.le_of_ble_eq_true rfl⟩ ?_
            refine xw_goto dy_inner_130 rfl ?_
            exact k'
          · refine xw_iload4 dy_inner_111 ?_
            refine xw_iconst dy_inner_113 ki_3 ?_
            refine xw_iand dy_inner_114 ?_
            refine xw_iload1 dy_inner_115 ?_
            refine xw_icmp_eq_mw (J := 153) (a := (if (s5 26 1) = 0 then (fy_raise (12 : Int32) (fy_codeOf r3.1 s5) s5) else s5)) (b := (fy_raise (10 : Int32) (fy_codeOf r3.1 s5) s5)) dy_inner_116 rfl (fun _ E' k' => ?_) (fun _ E' k' => ?_) ?_
            · refine xw_aload0 dy_inner_133 ?_
              refine xw_getR dy_inner_134 fl_y_35 (xl_n hn (by decide)) rfl r_18_16 ?_
              refine xw_iconst dy_inner_137 ki_1 ?_
              refine xw_zald dy_inner_138 (xl_n hn (by decide)) rfl vc_1_2 cn_1 ?_
              refine xw_if_ne_mw (J := 153) (a := (fy_raise (12 : Int32) (fy_codeOf r3.1 s5) s5)) (b := s5) dy_inner_139 rfl (fun _ E' k' => ?_) (fun _ E' k' => ?_) ?_
              · exact k'
              · refine xw_aload0 dy_inner_142 ?_
                refine xw_bipush dy_inner_143 kb_12 ?_
                refine xw_iload4 dy_inner_145 ?_
                refine xw_cVi dy_inner_147 (lk_y_inner_147) ok_y_codeOf (my_codeOf hl hn) ⟨Nat.le_of_ble_eq_true rfl, Nat.le_of_ble_eq_true rfl⟩ ?_
                refine xw_cW dy_inner_150 (lk_y_inner_150 (xl_n hn (by decide)) rfl) ok_y_raise (my_raise hl hn) ⟨Nat.le_of_ble_eq_true rfl, Nat.le_of_ble_eq_true rfl⟩ ?_
                exact k'
              exact k'
            · refine xw_aload0 dy_inner_119 ?_
              refine xw_bipush dy_inner_120 kb_10 ?_
              refine xw_iload4 dy_inner_122 ?_
              refine xw_cVi dy_inner_124 (lk_y_inner_124) ok_y_codeOf (my_codeOf hl hn) ⟨Nat.le_of_ble_eq_true rfl, Nat.le_of_ble_eq_true rfl⟩ ?_
              refine xw_cW dy_inner_127 (lk_y_inner_127 (xl_n hn (by decide)) rfl) ok_y_raise (my_raise hl hn) ⟨Nat.le_of_ble_eq_true rfl, Nat.le_of_ble_eq_true rfl⟩ ?_
              refine xw_goto dy_inner_130 rfl ?_
              exact k'
            exact k'
          exact k'
        refine xw_lw (fun s7 e_s7 => ?_)
        have hJ_s7 : yx_J s7 := by rw [e_s7]; exact (xj_i (fun _ => (xj_i (fun _ => (xj_i (fun _ => (xj_i (fun _ => (jy_raise hJ_s5)) (fun _ => hJ_s5))) (fun _ => (jy_raise hJ_s5)))) (fun _ => (jy_raise hJ_s5)))) (fun _ => (jy_raise hJ_s5)))
        refine xw_iconst dy_inner_153 ki_0 ?_
        refine xw_istore5 dy_inner_154 (Nat.le_of_ble_eq_true rfl) rfl ?_
        refine xw_iload5 dy_inner_156 ?_
        refine xw_iload2 dy_inner_158 ?_
        refine xw_icmp_ge_f dy_inner_159 rfl (by decide) ?_
        refine xw_aload0 dy_inner_162 ?_
        refine xw_cVi dy_inner_163 (lk_y_inner_163 (xl_n hn (by decide)) rfl) ok_y_isRaised (my_isRaised hl hn) ⟨Nat.le_of_ble_eq_true rfl, Nat.le_of_ble_eq_true rfl⟩ ?_
        refine xw_if_ne' dy_inner_166 rfl (fun h8 => ?_) (fun h8 => ?_)
        · refine xw_aload0 dy_inner_202 ?_
          refine xw_cVi dy_inner_203 (lk_y_inner_203 (xl_n hn (by decide)) rfl) ok_y_isRaised (my_isRaised hl hn) ⟨Nat.le_of_ble_eq_true rfl, Nat.le_of_ble_eq_true rfl⟩ ?_
          refine xw_if_eq_f dy_inner_206 rfl h8 ?_
          exact xw_vret dy_inner_209 rfl
        · refine xw_aload0 dy_inner_169 ?_
          refine xw_getR dy_inner_170 fl_y_42 (xl_n hn (by decide)) rfl r_18_18 ?_
          refine xw_iload5 dy_inner_173 ?_
          refine xw_aload0 dy_inner_175 ?_
          refine xw_iconst dy_inner_176 ki_1 ?_
          refine xw_aload0 dy_inner_177 ?_
          refine xw_getR dy_inner_178 fl_y_13 (xl_n hn (by decide)) rfl r_18_5 ?_
          refine xw_bipush dy_inner_181 kb_18 ?_
          refine xw_iald dy_inner_183 (xl_n hn (by decide)) rfl vc_18_26 cn_18 ?_
          refine xw_iconst dy_inner_184 ki_2 ?_
          refine xw_iload5 dy_inner_185 ?_
          refine xw_imul dy_inner_187 ?_
          refine xw_iadd dy_inner_188 ?_
          refine xw_ldc dy_inner_189 kc_y_97 ?_
          refine xw_iand dy_inner_191 ?_
          refine xw_cPi dy_inner_192 (lk_y_inner_192 (xl_n hn (by decide)) rfl) ok_y_segmentWord (my_segmentWord hl hn vc_1_3 hJ_s7) ⟨Nat.le_of_ble_eq_true rfl, Nat.le_of_ble_eq_true rfl⟩ ?_
          refine xw_lpi (fun r9 e_r9 => ?_)
          have hJ_r9 : yx_J r9.2 := by rw [e_r9]; exact (jy_segmentWord vc_1_3 hJ_s7)
          refine xw_iast dy_inner_195 (by decide) (xl_n hn (by decide)) rfl vc_0_8 cn_0 ?_
          refine xw_lw (fun s10 e_s10 => ?_)
          have hJ_s10 : yx_J s10 := by rw [e_s10]; exact (yx_u hJ_r9 (by decide))
          refine xw_iinc5 dy_inner_196 ic_0_1 (Nat.le_of_ble_eq_true rfl) rfl ?_
          refine xw_goto dy_inner_199 rfl ?_
          refine xw_iload5 dy_inner_156 ?_
          refine xw_iload2 dy_inner_158 ?_
          refine xw_icmp_ge_f dy_inner_159 rfl (by decide) ?_
          refine xw_aload0 dy_inner_162 ?_
          refine xw_cVi dy_inner_163 (lk_y_inner_163 (xl_n hn (by decide)) rfl) ok_y_isRaised (my_isRaised hl hn) ⟨Nat.le_of_ble_eq_true rfl, Nat.le_of_ble_eq_true rfl⟩ ?_
          refine xw_if_ne' dy_inner_166 rfl (fun h11 => ?_) (fun h11 => ?_)
          · refine xw_aload0 dy_inner_202 ?_
            refine xw_cVi dy_inner_203 (lk_y_inner_203 (xl_n hn (by decide)) rfl) ok_y_isRaised (my_isRaised hl hn) ⟨Nat.le_of_ble_eq_true rfl, Nat.le_of_ble_eq_true rfl⟩ ?_
            refine xw_if_eq_f dy_inner_206 rfl h11 ?_
            exact xw_vret dy_inner_209 rfl
          · refine xw_aload0 dy_inner_169 ?_
            refine xw_getR dy_inner_170 fl_y_42 (xl_n hn (by decide)) rfl r_18_18 ?_
            refine xw_iload5 dy_inner_173 ?_
            refine xw_aload0 dy_inner_175 ?_
            refine xw_iconst dy_inner_176 ki_1 ?_
            refine xw_aload0 dy_inner_177 ?_
            refine xw_getR dy_inner_178 fl_y_13 (xl_n hn (by decide)) rfl r_18_5 ?_
            refine xw_bipush dy_inner_181 kb_18 ?_
            refine xw_iald dy_inner_183 (xl_n hn (by decide)) rfl vc_18_26 cn_18 ?_
            refine xw_iconst dy_inner_184 ki_2 ?_
            refine xw_iload5 dy_inner_185 ?_
            refine xw_imul dy_inner_187 ?_
            refine xw_iadd dy_inner_188 ?_
            refine xw_ldc dy_inner_189 kc_y_97 ?_
            refine xw_iand dy_inner_191 ?_
            refine xw_cPi dy_inner_192 (lk_y_inner_192 (xl_n hn (by decide)) rfl) ok_y_segmentWord (my_segmentWord hl hn vc_1_3 hJ_s10) ⟨Nat.le_of_ble_eq_true rfl, Nat.le_of_ble_eq_true rfl⟩ ?_
            refine xw_lpi (fun r12 e_r12 => ?_)
            have hJ_r12 : yx_J r12.2 := by rw [e_r12]; exact (jy_segmentWord vc_1_3 hJ_s10)
            refine xw_iast dy_inner_195 (by decide) (xl_n hn (by decide)) rfl vc_1_8 cn_1 ?_
            refine xw_lw (fun s13 e_s13 => ?_)
            have hJ_s13 : yx_J s13 := by rw [e_s13]; exact (yx_u hJ_r12 (by decide))
            refine xw_iinc5 dy_inner_196 ic_1_1 (Nat.le_of_ble_eq_true rfl) rfl ?_
            refine xw_goto dy_inner_199 rfl ?_
            refine xw_iload5 dy_inner_156 ?_
            refine xw_iload2 dy_inner_158 ?_
            refine xw_icmp_ge_f dy_inner_159 rfl (by decide) ?_
            refine xw_aload0 dy_inner_162 ?_
            refine xw_cVi dy_inner_163 (lk_y_inner_163 (xl_n hn (by decide)) rfl) ok_y_isRaised (my_isRaised hl hn) ⟨Nat.le_of_ble_eq_true rfl, Nat.le_of_ble_eq_true rfl⟩ ?_
            refine xw_if_ne' dy_inner_166 rfl (fun h14 => ?_) (fun h14 => ?_)
            · refine xw_aload0 dy_inner_202 ?_
              refine xw_cVi dy_inner_203 (lk_y_inner_203 (xl_n hn (by decide)) rfl) ok_y_isRaised (my_isRaised hl hn) ⟨Nat.le_of_ble_eq_true rfl, Nat.le_of_ble_eq_true rfl⟩ ?_
              refine xw_if_eq_f dy_inner_206 rfl h14 ?_
              exact xw_vret dy_inner_209 rfl
            · refine xw_aload0 dy_inner_169 ?_
              refine xw_getR dy_inner_170 fl_y_42 (xl_n hn (by decide)) rfl r_18_18 ?_
              refine xw_iload5 dy_inner_173 ?_
              refine xw_aload0 dy_inner_175 ?_
              refine xw_iconst dy_inner_176 ki_1 ?_
              refine xw_aload0 dy_inner_177 ?_
              refine xw_getR dy_inner_178 fl_y_13 (xl_n hn (by decide)) rfl r_18_5 ?_
              refine xw_bipush dy_inner_181 kb_18 ?_
              refine xw_iald dy_inner_183 (xl_n hn (by decide)) rfl vc_18_26 cn_18 ?_
              refine xw_iconst dy_inner_184 ki_2 ?_
              refine xw_iload5 dy_inner_185 ?_
              refine xw_imul dy_inner_187 ?_
              refine xw_iadd dy_inner_188 ?_
              refine xw_ldc dy_inner_189 kc_y_97 ?_
              refine xw_iand dy_inner_191 ?_
              refine xw_cPi dy_inner_192 (lk_y_inner_192 (xl_n hn (by decide)) rfl) ok_y_segmentWord (my_segmentWord hl hn vc_1_3 hJ_s13) ⟨Nat.le_of_ble_eq_true rfl, Nat.le_of_ble_eq_true rfl⟩ ?_
              refine xw_lpi (fun r15 e_r15 => ?_)
              have hJ_r15 : yx_J r15.2 := by rw [e_r15]; exact (jy_segmentWord vc_1_3 hJ_s13)
              refine xw_iast dy_inner_195 (by decide) (xl_n hn (by decide)) rfl vc_2_8 cn_2 ?_
              refine xw_lw (fun s16 e_s16 => ?_)
              have hJ_s16 : yx_J s16 := by rw [e_s16]; exact (yx_u hJ_r15 (by decide))
              refine xw_iinc5 dy_inner_196 ic_2_1 (Nat.le_of_ble_eq_true rfl) rfl ?_
              refine xw_goto dy_inner_199 rfl ?_
              refine xw_iload5 dy_inner_156 ?_
              refine xw_iload2 dy_inner_158 ?_
              refine xw_icmp_ge_f dy_inner_159 rfl (by decide) ?_
              refine xw_aload0 dy_inner_162 ?_
              refine xw_cVi dy_inner_163 (lk_y_inner_163 (xl_n hn (by decide)) rfl) ok_y_isRaised (my_isRaised hl hn) ⟨Nat.le_of_ble_eq_true rfl, Nat.le_of_ble_eq_true rfl⟩ ?_
              refine xw_if_ne' dy_inner_166 rfl (fun h17 => ?_) (fun h17 => ?_)
              · refine xw_aload0 dy_inner_202 ?_
                refine xw_cVi dy_inner_203 (lk_y_inner_203 (xl_n hn (by decide)) rfl) ok_y_isRaised (my_isRaised hl hn) ⟨Nat.le_of_ble_eq_true rfl, Nat.le_of_ble_eq_true rfl⟩ ?_
                refine xw_if_eq_f dy_inner_206 rfl h17 ?_
                exact xw_vret dy_inner_209 rfl
              · refine xw_aload0 dy_inner_169 ?_
                refine xw_getR dy_inner_170 fl_y_42 (xl_n hn (by decide)) rfl r_18_18 ?_
                refine xw_iload5 dy_inner_173 ?_
                refine xw_aload0 dy_inner_175 ?_
                refine xw_iconst dy_inner_176 ki_1 ?_
                refine xw_aload0 dy_inner_177 ?_
                refine xw_getR dy_inner_178 fl_y_13 (xl_n hn (by decide)) rfl r_18_5 ?_
                refine xw_bipush dy_inner_181 kb_18 ?_
                refine xw_iald dy_inner_183 (xl_n hn (by decide)) rfl vc_18_26 cn_18 ?_
                refine xw_iconst dy_inner_184 ki_2 ?_
                refine xw_iload5 dy_inner_185 ?_
                refine xw_imul dy_inner_187 ?_
                refine xw_iadd dy_inner_188 ?_
                refine xw_ldc dy_inner_189 kc_y_97 ?_
                refine xw_iand dy_inner_191 ?_
                refine xw_cPi dy_inner_192 (lk_y_inner_192 (xl_n hn (by decide)) rfl) ok_y_segmentWord (my_segmentWord hl hn vc_1_3 hJ_s16) ⟨Nat.le_of_ble_eq_true rfl, Nat.le_of_ble_eq_true rfl⟩ ?_
                refine xw_lpi (fun r18 e_r18 => ?_)
                have hJ_r18 : yx_J r18.2 := by rw [e_r18]; exact (jy_segmentWord vc_1_3 hJ_s16)
                refine xw_iast dy_inner_195 (by decide) (xl_n hn (by decide)) rfl vc_3_8 cn_3 ?_
                refine xw_lw (fun s19 e_s19 => ?_)
                have hJ_s19 : yx_J s19 := by rw [e_s19]; exact (yx_u hJ_r18 (by decide))
                refine xw_iinc5 dy_inner_196 ic_3_1 (Nat.le_of_ble_eq_true rfl) rfl ?_
                refine xw_goto dy_inner_199 rfl ?_
                refine xw_iload5 dy_inner_156 ?_
                refine xw_iload2 dy_inner_158 ?_
                refine xw_icmp_ge_f dy_inner_159 rfl (by decide) ?_
                refine xw_aload0 dy_inner_162 ?_
                refine xw_cVi dy_inner_163 (lk_y_inner_163 (xl_n hn (by decide)) rfl) ok_y_isRaised (my_isRaised hl hn) ⟨Nat.le_of_ble_eq_true rfl, Nat.le_of_ble_eq_true rfl⟩ ?_
                refine xw_if_ne' dy_inner_166 rfl (fun h20 => ?_) (fun h20 => ?_)
                · refine xw_aload0 dy_inner_202 ?_
                  refine xw_cVi dy_inner_203 (lk_y_inner_203 (xl_n hn (by decide)) rfl) ok_y_isRaised (my_isRaised hl hn) ⟨Nat.le_of_ble_eq_true rfl, Nat.le_of_ble_eq_true rfl⟩ ?_
                  refine xw_if_eq_f dy_inner_206 rfl h20 ?_
                  exact xw_vret dy_inner_209 rfl
                · refine xw_aload0 dy_inner_169 ?_
                  refine xw_getR dy_inner_170 fl_y_42 (xl_n hn (by decide)) rfl r_18_18 ?_
                  refine xw_iload5 dy_inner_173 ?_
                  refine xw_aload0 dy_inner_175 ?_
                  refine xw_iconst dy_inner_176 ki_1 ?_
                  refine xw_aload0 dy_inner_177 ?_
                  refine xw_getR dy_inner_178 fl_y_13 (xl_n hn (by decide)) rfl r_18_5 ?_
                  refine xw_bipush dy_inner_181 kb_18 ?_
                  refine xw_iald dy_inner_183 (xl_n hn (by decide)) rfl vc_18_26 cn_18 ?_
                  refine xw_iconst dy_inner_184 ki_2 ?_
                  refine xw_iload5 dy_inner_185 ?_
                  refine xw_imul dy_inner_187 ?_
                  refine xw_iadd dy_inner_188 ?_
                  refine xw_ldc dy_inner_189 kc_y_97 ?_
                  refine xw_iand dy_inner_191 ?_
                  refine xw_cPi dy_inner_192 (lk_y_inner_192 (xl_n hn (by decide)) rfl) ok_y_segmentWord (my_segmentWord hl hn vc_1_3 hJ_s19) ⟨Nat.le_of_ble_eq_true rfl, Nat.le_of_ble_eq_true rfl⟩ ?_
                  refine xw_lpi (fun r21 e_r21 => ?_)
                  have hJ_r21 : yx_J r21.2 := by rw [e_r21]; exact (jy_segmentWord vc_1_3 hJ_s19)
                  refine xw_iast dy_inner_195 (by decide) (xl_n hn (by decide)) rfl vc_4_8 cn_4 ?_
                  refine xw_lw (fun s22 e_s22 => ?_)
                  have hJ_s22 : yx_J s22 := by rw [e_s22]; exact (yx_u hJ_r21 (by decide))
                  refine xw_iinc5 dy_inner_196 ic_4_1 (Nat.le_of_ble_eq_true rfl) rfl ?_
                  refine xw_goto dy_inner_199 rfl ?_
                  refine xw_iload5 dy_inner_156 ?_
                  refine xw_iload2 dy_inner_158 ?_
                  refine xw_icmp_ge_f dy_inner_159 rfl (by decide) ?_
                  refine xw_aload0 dy_inner_162 ?_
                  refine xw_cVi dy_inner_163 (lk_y_inner_163 (xl_n hn (by decide)) rfl) ok_y_isRaised (my_isRaised hl hn) ⟨Nat.le_of_ble_eq_true rfl, Nat.le_of_ble_eq_true rfl⟩ ?_
                  refine xw_if_ne' dy_inner_166 rfl (fun h23 => ?_) (fun h23 => ?_)
                  · refine xw_aload0 dy_inner_202 ?_
                    refine xw_cVi dy_inner_203 (lk_y_inner_203 (xl_n hn (by decide)) rfl) ok_y_isRaised (my_isRaised hl hn) ⟨Nat.le_of_ble_eq_true rfl, Nat.le_of_ble_eq_true rfl⟩ ?_
                    refine xw_if_eq_f dy_inner_206 rfl h23 ?_
                    exact xw_vret dy_inner_209 rfl
                  · refine xw_aload0 dy_inner_169 ?_
                    refine xw_getR dy_inner_170 fl_y_42 (xl_n hn (by decide)) rfl r_18_18 ?_
                    refine xw_iload5 dy_inner_173 ?_
                    refine xw_aload0 dy_inner_175 ?_
                    refine xw_iconst dy_inner_176 ki_1 ?_
                    refine xw_aload0 dy_inner_177 ?_
                    refine xw_getR dy_inner_178 fl_y_13 (xl_n hn (by decide)) rfl r_18_5 ?_
                    refine xw_bipush dy_inner_181 kb_18 ?_
                    refine xw_iald dy_inner_183 (xl_n hn (by decide)) rfl vc_18_26 cn_18 ?_
                    refine xw_iconst dy_inner_184 ki_2 ?_
                    refine xw_iload5 dy_inner_185 ?_
                    refine xw_imul dy_inner_187 ?_
                    refine xw_iadd dy_inner_188 ?_
                    refine xw_ldc dy_inner_189 kc_y_97 ?_
                    refine xw_iand dy_inner_191 ?_
                    refine xw_cPi dy_inner_192 (lk_y_inner_192 (xl_n hn (by decide)) rfl) ok_y_segmentWord (my_segmentWord hl hn vc_1_3 hJ_s22) ⟨Nat.le_of_ble_eq_true rfl, Nat.le_of_ble_eq_true rfl⟩ ?_
                    refine xw_lpi (fun r24 e_r24 => ?_)
                    have hJ_r24 : yx_J r24.2 := by rw [e_r24]; exact (jy_segmentWord vc_1_3 hJ_s22)
                    refine xw_iast dy_inner_195 (by decide) (xl_n hn (by decide)) rfl vc_5_8 cn_5 ?_
                    refine xw_lw (fun s25 e_s25 => ?_)
                    have hJ_s25 : yx_J s25 := by rw [e_s25]; exact (yx_u hJ_r24 (by decide))
                    refine xw_iinc5 dy_inner_196 ic_5_1 (Nat.le_of_ble_eq_true rfl) rfl ?_
                    refine xw_goto dy_inner_199 rfl ?_
                    refine xw_iload5 dy_inner_156 ?_
                    refine xw_iload2 dy_inner_158 ?_
                    refine xw_icmp_ge_f dy_inner_159 rfl (by decide) ?_
                    refine xw_aload0 dy_inner_162 ?_
                    refine xw_cVi dy_inner_163 (lk_y_inner_163 (xl_n hn (by decide)) rfl) ok_y_isRaised (my_isRaised hl hn) ⟨Nat.le_of_ble_eq_true rfl, Nat.le_of_ble_eq_true rfl⟩ ?_
                    refine xw_if_ne' dy_inner_166 rfl (fun h26 => ?_) (fun h26 => ?_)
                    · refine xw_aload0 dy_inner_202 ?_
                      refine xw_cVi dy_inner_203 (lk_y_inner_203 (xl_n hn (by decide)) rfl) ok_y_isRaised (my_isRaised hl hn) ⟨Nat.le_of_ble_eq_true rfl, Nat.le_of_ble_eq_true rfl⟩ ?_
                      refine xw_if_eq_f dy_inner_206 rfl h26 ?_
                      exact xw_vret dy_inner_209 rfl
                    · refine xw_aload0 dy_inner_169 ?_
                      refine xw_getR dy_inner_170 fl_y_42 (xl_n hn (by decide)) rfl r_18_18 ?_
                      refine xw_iload5 dy_inner_173 ?_
                      refine xw_aload0 dy_inner_175 ?_
                      refine xw_iconst dy_inner_176 ki_1 ?_
                      refine xw_aload0 dy_inner_177 ?_
                      refine xw_getR dy_inner_178 fl_y_13 (xl_n hn (by decide)) rfl r_18_5 ?_
                      refine xw_bipush dy_inner_181 kb_18 ?_
                      refine xw_iald dy_inner_183 (xl_n hn (by decide)) rfl vc_18_26 cn_18 ?_
                      refine xw_iconst dy_inner_184 ki_2 ?_
                      refine xw_iload5 dy_inner_185 ?_
                      refine xw_imul dy_inner_187 ?_
                      refine xw_iadd dy_inner_188 ?_
                      refine xw_ldc dy_inner_189 kc_y_97 ?_
                      refine xw_iand dy_inner_191 ?_
                      refine xw_cPi dy_inner_192 (lk_y_inner_192 (xl_n hn (by decide)) rfl) ok_y_segmentWord (my_segmentWord hl hn vc_1_3 hJ_s25) ⟨Nat.le_of_ble_eq_true rfl, Nat.le_of_ble_eq_true rfl⟩ ?_
                      refine xw_lpi (fun r27 e_r27 => ?_)
                      have hJ_r27 : yx_J r27.2 := by rw [e_r27]; exact (jy_segmentWord vc_1_3 hJ_s25)
                      refine xw_iast dy_inner_195 (by decide) (xl_n hn (by decide)) rfl vc_6_8 cn_6 ?_
                      refine xw_lw (fun s28 e_s28 => ?_)
                      have hJ_s28 : yx_J s28 := by rw [e_s28]; exact (yx_u hJ_r27 (by decide))
                      refine xw_iinc5 dy_inner_196 ic_6_1 (Nat.le_of_ble_eq_true rfl) rfl ?_
                      refine xw_goto dy_inner_199 rfl ?_
                      refine xw_iload5 dy_inner_156 ?_
                      refine xw_iload2 dy_inner_158 ?_
                      refine xw_icmp_ge_t dy_inner_159 rfl (by decide) ?_
                      refine xw_aload0 dy_inner_202 ?_
                      refine xw_cVi dy_inner_203 (lk_y_inner_203 (xl_n hn (by decide)) rfl) ok_y_isRaised (my_isRaised hl hn) ⟨Nat.le_of_ble_eq_true rfl, Nat.le_of_ble_eq_true rfl⟩ ?_
                      refine xw_if_eq' dy_inner_206 rfl (fun h29 => ?_) (fun h29 => ?_)
                      · refine xw_aload0 dy_inner_210 ?_
                        refine xw_getR dy_inner_211 fl_y_13 (xl_n hn (by decide)) rfl r_18_5 ?_
                        refine xw_iconst dy_inner_214 ki_1 ?_
                        refine xw_iald dy_inner_215 (xl_n hn (by decide)) rfl vc_1_26 cn_1 ?_
                        refine xw_li (fun v30 e_v30 => ?_)
                        refine xw_istore5 dy_inner_216 (Nat.le_of_ble_eq_true rfl) rfl ?_
                        refine xw_aload0 dy_inner_218 ?_
                        refine xw_getR dy_inner_219 fl_y_13 (xl_n hn (by decide)) rfl r_18_5 ?_
                        refine xw_bipush dy_inner_222 kb_18 ?_
                        refine xw_iald dy_inner_224 (xl_n hn (by decide)) rfl vc_18_26 cn_18 ?_
                        refine xw_li (fun v31 e_v31 => ?_)
                        refine xw_istore6 dy_inner_225 (Nat.le_of_ble_eq_true rfl) rfl ?_
                        refine xw_aload0 dy_inner_227 ?_
                        refine xw_getR dy_inner_228 fl_y_13 (xl_n hn (by decide)) rfl r_18_5 ?_
                        refine xw_bipush dy_inner_231 kb_21 ?_
                        refine xw_iload1 dy_inner_233 ?_
                        refine xw_iast dy_inner_234 (by decide) (xl_n hn (by decide)) rfl vc_21_26 cn_21 ?_
                        refine xw_lw (fun s32 e_s32 => ?_)
                        have hJ_s32 : yx_J s32 := by rw [e_s32]; exact (yx_u hJ_s28 (by decide))
                        refine xw_aload0 dy_inner_235 ?_
                        refine xw_iconst dy_inner_236 ki_1 ?_
                        refine xw_iload4 dy_inner_237 ?_
                        refine xw_iconst dy_inner_239 ki_1 ?_
                        refine xw_cW dy_inner_240 (lk_y_inner_240 (xl_n hn (by decide)) rfl) ok_y_setSegment (my_setSegment hl hn vc_1_3 vc_1_2) ⟨Nat.le_of_ble_eq_true rfl, Nat.le_of_ble_eq_true rfl⟩ ?_
                        refine xw_lw (fun s33 e_s33 => ?_)
                        have hJ_s33 : yx_J s33 := by rw [e_s33]; exact (jy_setSegment vc_1_3 vc_1_2 hJ_s32)
                        refine xw_aload0 dy_inner_243 ?_
                        refine xw_getR dy_inner_244 fl_y_13 (xl_n hn (by decide)) rfl r_18_5 ?_
                        refine xw_bipush dy_inner_247 kb_18 ?_
                        refine xw_iload3 dy_inner_249 ?_
                        refine xw_iast dy_inner_250 (by decide) (xl_n hn (by decide)) rfl vc_18_26 cn_18 ?_
                        refine xw_lw (fun s34 e_s34 => ?_)
                        have hJ_s34 : yx_J s34 := by rw [e_s34]; exact (yx_u hJ_s33 (by decide))
                        refine xw_aload0 dy_inner_251 ?_
                        refine xw_iload5 dy_inner_252 ?_
                        refine xw_cW dy_inner_254 (lk_y_inner_254 (xl_n hn (by decide)) rfl) ok_y_pushWord (my_pushWord hl hn hJ_s34) ⟨Nat.le_of_ble_eq_true rfl, Nat.le_of_ble_eq_true rfl⟩ ?_
                        refine xw_lw (fun s35 e_s35 => ?_)
                        have hJ_s35 : yx_J s35 := by rw [e_s35]; exact (jy_pushWord hJ_s34)
                        refine xw_aload0 dy_inner_257 ?_
                        refine xw_iload6 dy_inner_258 ?_
                        refine xw_cW dy_inner_260 (lk_y_inner_260 (xl_n hn (by decide)) rfl) ok_y_pushWord (my_pushWord hl hn hJ_s35) ⟨Nat.le_of_ble_eq_true rfl, Nat.le_of_ble_eq_true rfl⟩ ?_
                        refine xw_lw (fun s36 e_s36 => ?_)
                        have hJ_s36 : yx_J s36 := by rw [e_s36]; exact (jy_pushWord hJ_s35)
                        refine xw_iload2 dy_inner_263 ?_
                        refine xw_iconst dy_inner_264 ki_1 ?_
                        refine xw_isubc dy_inner_265 sb_7_1 ?_
                        refine xw_istore7 dy_inner_266 (Nat.le_of_ble_eq_true rfl) rfl ?_
                        refine xw_iload7 dy_inner_268 ?_
                        refine xw_if_lt_f dy_inner_270 rfl (by decide) ?_
                        refine xw_aload0 dy_inner_273 ?_
                        refine xw_aload0 dy_inner_274 ?_
                        refine xw_getR dy_inner_275 fl_y_42 (xl_n hn (by decide)) rfl r_18_18 ?_
                        refine xw_iload7 dy_inner_278 ?_
                        refine xw_iald dy_inner_280 (xl_n hn (by decide)) rfl vc_6_8 cn_6 ?_
                        refine xw_cW dy_inner_281 (lk_y_inner_281 (xl_n hn (by decide)) rfl) ok_y_pushWord (my_pushWord hl hn hJ_s36) ⟨Nat.le_of_ble_eq_true rfl, Nat.le_of_ble_eq_true rfl⟩ ?_
                        refine xw_lw (fun s37 e_s37 => ?_)
                        have hJ_s37 : yx_J s37 := by rw [e_s37]; exact (jy_pushWord hJ_s36)
                        refine xw_iinc7 dy_inner_284 ic_6_m1 (Nat.le_of_ble_eq_true rfl) rfl ?_
                        refine xw_goto dy_inner_287 rfl ?_
                        refine xw_iload7 dy_inner_268 ?_
                        refine xw_if_lt_f dy_inner_270 rfl (by decide) ?_
                        refine xw_aload0 dy_inner_273 ?_
                        refine xw_aload0 dy_inner_274 ?_
                        refine xw_getR dy_inner_275 fl_y_42 (xl_n hn (by decide)) rfl r_18_18 ?_
                        refine xw_iload7 dy_inner_278 ?_
                        refine xw_iald dy_inner_280 (xl_n hn (by decide)) rfl vc_5_8 cn_5 ?_
                        refine xw_cW dy_inner_281 (lk_y_inner_281 (xl_n hn (by decide)) rfl) ok_y_pushWord (my_pushWord hl hn hJ_s37) ⟨Nat.le_of_ble_eq_true rfl, Nat.le_of_ble_eq_true rfl⟩ ?_
                        refine xw_lw (fun s38 e_s38 => ?_)
                        have hJ_s38 : yx_J s38 := by rw [e_s38]; exact (jy_pushWord hJ_s37)
                        refine xw_iinc7 dy_inner_284 ic_5_m1 (Nat.le_of_ble_eq_true rfl) rfl ?_
                        refine xw_goto dy_inner_287 rfl ?_
                        refine xw_iload7 dy_inner_268 ?_
                        refine xw_if_lt_f dy_inner_270 rfl (by decide) ?_
                        refine xw_aload0 dy_inner_273 ?_
                        refine xw_aload0 dy_inner_274 ?_
                        refine xw_getR dy_inner_275 fl_y_42 (xl_n hn (by decide)) rfl r_18_18 ?_
                        refine xw_iload7 dy_inner_278 ?_
                        refine xw_iald dy_inner_280 (xl_n hn (by decide)) rfl vc_4_8 cn_4 ?_
                        refine xw_cW dy_inner_281 (lk_y_inner_281 (xl_n hn (by decide)) rfl) ok_y_pushWord (my_pushWord hl hn hJ_s38) ⟨Nat.le_of_ble_eq_true rfl, Nat.le_of_ble_eq_true rfl⟩ ?_
                        refine xw_lw (fun s39 e_s39 => ?_)
                        have hJ_s39 : yx_J s39 := by rw [e_s39]; exact (jy_pushWord hJ_s38)
                        refine xw_iinc7 dy_inner_284 ic_4_m1 (Nat.le_of_ble_eq_true rfl) rfl ?_
                        refine xw_goto dy_inner_287 rfl ?_
                        refine xw_iload7 dy_inner_268 ?_
                        refine xw_if_lt_f dy_inner_270 rfl (by decide) ?_
                        refine xw_aload0 dy_inner_273 ?_
                        refine xw_aload0 dy_inner_274 ?_
                        refine xw_getR dy_inner_275 fl_y_42 (xl_n hn (by decide)) rfl r_18_18 ?_
                        refine xw_iload7 dy_inner_278 ?_
                        refine xw_iald dy_inner_280 (xl_n hn (by decide)) rfl vc_3_8 cn_3 ?_
                        refine xw_cW dy_inner_281 (lk_y_inner_281 (xl_n hn (by decide)) rfl) ok_y_pushWord (my_pushWord hl hn hJ_s39) ⟨Nat.le_of_ble_eq_true rfl, Nat.le_of_ble_eq_true rfl⟩ ?_
                        refine xw_lw (fun s40 e_s40 => ?_)
                        have hJ_s40 : yx_J s40 := by rw [e_s40]; exact (jy_pushWord hJ_s39)
                        refine xw_iinc7 dy_inner_284 ic_3_m1 (Nat.le_of_ble_eq_true rfl) rfl ?_
                        refine xw_goto dy_inner_287 rfl ?_
                        refine xw_iload7 dy_inner_268 ?_
                        refine xw_if_lt_f dy_inner_270 rfl (by decide) ?_
                        refine xw_aload0 dy_inner_273 ?_
                        refine xw_aload0 dy_inner_274 ?_
                        refine xw_getR dy_inner_275 fl_y_42 (xl_n hn (by decide)) rfl r_18_18 ?_
                        refine xw_iload7 dy_inner_278 ?_
                        refine xw_iald dy_inner_280 (xl_n hn (by decide)) rfl vc_2_8 cn_2 ?_
                        refine xw_cW dy_inner_281 (lk_y_inner_281 (xl_n hn (by decide)) rfl) ok_y_pushWord (my_pushWord hl hn hJ_s40) ⟨Nat.le_of_ble_eq_true rfl, Nat.le_of_ble_eq_true rfl⟩ ?_
                        refine xw_lw (fun s41 e_s41 => ?_)
                        have hJ_s41 : yx_J s41 := by rw [e_s41]; exact (jy_pushWord hJ_s40)
                        refine xw_iinc7 dy_inner_284 ic_2_m1 (Nat.le_of_ble_eq_true rfl) rfl ?_
                        refine xw_goto dy_inner_287 rfl ?_
                        refine xw_iload7 dy_inner_268 ?_
                        refine xw_if_lt_f dy_inner_270 rfl (by decide) ?_
                        refine xw_aload0 dy_inner_273 ?_
                        refine xw_aload0 dy_inner_274 ?_
                        refine xw_getR dy_inner_275 fl_y_42 (xl_n hn (by decide)) rfl r_18_18 ?_
                        refine xw_iload7 dy_inner_278 ?_
                        refine xw_iald dy_inner_280 (xl_n hn (by decide)) rfl vc_1_8 cn_1 ?_
                        refine xw_cW dy_inner_281 (lk_y_inner_281 (xl_n hn (by decide)) rfl) ok_y_pushWord (my_pushWord hl hn hJ_s41) ⟨Nat.le_of_ble_eq_true rfl, Nat.le_of_ble_eq_true rfl⟩ ?_
                        refine xw_lw (fun s42 e_s42 => ?_)
                        have hJ_s42 : yx_J s42 := by rw [e_s42]; exact (jy_pushWord hJ_s41)
                        refine xw_iinc7 dy_inner_284 ic_1_m1 (Nat.le_of_ble_eq_true rfl) rfl ?_
                        refine xw_goto dy_inner_287 rfl ?_
                        refine xw_iload7 dy_inner_268 ?_
                        refine xw_if_lt_f dy_inner_270 rfl (by decide) ?_
                        refine xw_aload0 dy_inner_273 ?_
                        refine xw_aload0 dy_inner_274 ?_
                        refine xw_getR dy_inner_275 fl_y_42 (xl_n hn (by decide)) rfl r_18_18 ?_
                        refine xw_iload7 dy_inner_278 ?_
                        refine xw_iald dy_inner_280 (xl_n hn (by decide)) rfl vc_0_8 cn_0 ?_
                        refine xw_cW dy_inner_281 (lk_y_inner_281 (xl_n hn (by decide)) rfl) ok_y_pushWord (my_pushWord hl hn hJ_s42) ⟨Nat.le_of_ble_eq_true rfl, Nat.le_of_ble_eq_true rfl⟩ ?_
                        refine xw_lw (fun s43 e_s43 => ?_)
                        have hJ_s43 : yx_J s43 := by rw [e_s43]; exact (jy_pushWord hJ_s42)
                        refine xw_iinc7 dy_inner_284 ic_0_m1 (Nat.le_of_ble_eq_true rfl) rfl ?_
                        refine xw_goto dy_inner_287 rfl ?_
                        refine xw_iload7 dy_inner_268 ?_
                        refine xw_if_lt_t dy_inner_270 rfl (by decide) ?_
                        exact xw_vret dy_inner_290 rfl
                      · exact xw_vret dy_inner_209 rfl
      · exact xw_vret dy_inner_90 rfl
    · exact xw_vret dy_inner_57 rfl
  · refine xw_iconst dy_inner_26 ki_0 ?_
    refine xw_goto dy_inner_27 rfl ?_
    refine xw_istore4 dy_inner_48 (Nat.le_of_ble_eq_true rfl) rfl ?_
    refine xw_aload0 dy_inner_50 ?_
    refine xw_cVi dy_inner_51 (lk_y_inner_51 (xl_n hn (by decide)) rfl) ok_y_isRaised (my_isRaised hl hn) ⟨Nat.le_of_ble_eq_true rfl, Nat.le_of_ble_eq_true rfl⟩ ?_
    refine xw_if_eq_f dy_inner_54 rfl h2 ?_
    exact xw_vret dy_inner_57 rfl
theorem jy_inner_7 {a1 : Int32} {σ : xs_S} (hJ : yx_J σ) : yx_J (fy_inner_7 a1 σ) := by
  unfold fy_inner_7
  refine xj_wl (fun r1 e_r1 => ?_)
  have hJ_r1 : yx_J r1.2 := by rw [e_r1]; exact (jy_readWord hJ)
  refine xj_wf (fun h2 => ?_) (fun h2 => ?_)
  · refine xj_wl (fun r3 e_r3 => ?_)
    have hJ_r3 : yx_J r3.2 := by rw [e_r3]; exact (jy_readWord hJ_r1)
    refine xj_wf (fun h4 => ?_) (fun h4 => ?_)
    · refine xj_wl (fun s5 e_s5 => ?_)
      have hJ_s5 : yx_J s5 := by rw [e_s5]; exact (xj_i (fun _ => (jy_lookUp vc_1_2 hJ_r3)) (fun _ => (jy_raise hJ_r3)))
      refine xj_wf (fun h6 => ?_) (fun h6 => ?_)
      · refine xj_wl (fun s7 e_s7 => ?_)
        have hJ_s7 : yx_J s7 := by rw [e_s7]; exact (xj_i (fun _ => (xj_i (fun _ => (xj_i (fun _ => (xj_i (fun _ => (jy_raise hJ_s5)) (fun _ => hJ_s5))) (fun _ => (jy_raise hJ_s5)))) (fun _ => (jy_raise hJ_s5)))) (fun _ => (jy_raise hJ_s5)))
        refine xj_wf (fun h8 => ?_) (fun h8 => ?_)
        · refine xj_wl (fun r9 e_r9 => ?_)
          have hJ_r9 : yx_J r9.2 := by rw [e_r9]; exact (jy_segmentWord vc_1_3 hJ_s7)
          refine xj_wl (fun s10 e_s10 => ?_)
          have hJ_s10 : yx_J s10 := by rw [e_s10]; exact (yx_u hJ_r9 (by decide))
          refine xj_wf (fun h11 => ?_) (fun h11 => ?_)
          · refine xj_wl (fun r12 e_r12 => ?_)
            have hJ_r12 : yx_J r12.2 := by rw [e_r12]; exact (jy_segmentWord vc_1_3 hJ_s10)
            refine xj_wl (fun s13 e_s13 => ?_)
            have hJ_s13 : yx_J s13 := by rw [e_s13]; exact (yx_u hJ_r12 (by decide))
            refine xj_wf (fun h14 => ?_) (fun h14 => ?_)
            · refine xj_wl (fun r15 e_r15 => ?_)
              have hJ_r15 : yx_J r15.2 := by rw [e_r15]; exact (jy_segmentWord vc_1_3 hJ_s13)
              refine xj_wl (fun s16 e_s16 => ?_)
              have hJ_s16 : yx_J s16 := by rw [e_s16]; exact (yx_u hJ_r15 (by decide))
              refine xj_wf (fun h17 => ?_) (fun h17 => ?_)
              · refine xj_wl (fun r18 e_r18 => ?_)
                have hJ_r18 : yx_J r18.2 := by rw [e_r18]; exact (jy_segmentWord vc_1_3 hJ_s16)
                refine xj_wl (fun s19 e_s19 => ?_)
                have hJ_s19 : yx_J s19 := by rw [e_s19]; exact (yx_u hJ_r18 (by decide))
                refine xj_wf (fun h20 => ?_) (fun h20 => ?_)
                · refine xj_wl (fun r21 e_r21 => ?_)
                  have hJ_r21 : yx_J r21.2 := by rw [e_r21]; exact (jy_segmentWord vc_1_3 hJ_s19)
                  refine xj_wl (fun s22 e_s22 => ?_)
                  have hJ_s22 : yx_J s22 := by rw [e_s22]; exact (yx_u hJ_r21 (by decide))
                  refine xj_wf (fun h23 => ?_) (fun h23 => ?_)
                  · refine xj_wl (fun r24 e_r24 => ?_)
                    have hJ_r24 : yx_J r24.2 := by rw [e_r24]; exact (jy_segmentWord vc_1_3 hJ_s22)
                    refine xj_wl (fun s25 e_s25 => ?_)
                    have hJ_s25 : yx_J s25 := by rw [e_s25]; exact (yx_u hJ_r24 (by decide))
                    refine xj_wf (fun h26 => ?_) (fun h26 => ?_)
                    · refine xj_wl (fun r27 e_r27 => ?_)
                      have hJ_r27 : yx_J r27.2 := by rw [e_r27]; exact (jy_segmentWord vc_1_3 hJ_s25)
                      refine xj_wl (fun s28 e_s28 => ?_)
                      have hJ_s28 : yx_J s28 := by rw [e_s28]; exact (yx_u hJ_r27 (by decide))
                      refine xj_wf (fun h29 => ?_) (fun h29 => ?_)
                      · refine xj_wl (fun v30 e_v30 => ?_)
                        refine xj_wl (fun v31 e_v31 => ?_)
                        refine xj_wl (fun s32 e_s32 => ?_)
                        have hJ_s32 : yx_J s32 := by rw [e_s32]; exact (yx_u hJ_s28 (by decide))
                        refine xj_wl (fun s33 e_s33 => ?_)
                        have hJ_s33 : yx_J s33 := by rw [e_s33]; exact (jy_setSegment vc_1_3 vc_1_2 hJ_s32)
                        refine xj_wl (fun s34 e_s34 => ?_)
                        have hJ_s34 : yx_J s34 := by rw [e_s34]; exact (yx_u hJ_s33 (by decide))
                        refine xj_wl (fun s35 e_s35 => ?_)
                        have hJ_s35 : yx_J s35 := by rw [e_s35]; exact (jy_pushWord hJ_s34)
                        refine xj_wl (fun s36 e_s36 => ?_)
                        have hJ_s36 : yx_J s36 := by rw [e_s36]; exact (jy_pushWord hJ_s35)
                        refine xj_wl (fun s37 e_s37 => ?_)
                        have hJ_s37 : yx_J s37 := by rw [e_s37]; exact (jy_pushWord hJ_s36)
                        refine xj_wl (fun s38 e_s38 => ?_)
                        have hJ_s38 : yx_J s38 := by rw [e_s38]; exact (jy_pushWord hJ_s37)
                        refine xj_wl (fun s39 e_s39 => ?_)
                        have hJ_s39 : yx_J s39 := by rw [e_s39]; exact (jy_pushWord hJ_s38)
                        refine xj_wl (fun s40 e_s40 => ?_)
                        have hJ_s40 : yx_J s40 := by rw [e_s40]; exact (jy_pushWord hJ_s39)
                        refine xj_wl (fun s41 e_s41 => ?_)
                        have hJ_s41 : yx_J s41 := by rw [e_s41]; exact (jy_pushWord hJ_s40)
                        refine xj_wl (fun s42 e_s42 => ?_)
                        have hJ_s42 : yx_J s42 := by rw [e_s42]; exact (jy_pushWord hJ_s41)
                        refine xj_wl (fun s43 e_s43 => ?_)
                        have hJ_s43 : yx_J s43 := by rw [e_s43]; exact (jy_pushWord hJ_s42)
                        exact hJ_s43
                      · exact hJ_s28
                    · exact hJ_s25
                  · exact hJ_s22
                · exact hJ_s19
              · exact hJ_s16
            · exact hJ_s13
          · exact hJ_s10
        · exact hJ_s7
      · exact hJ_s5
    · exact hJ_r3
  · exact hJ_r1
def fy_inner (a1 a2 : Int32) (σ : xs_S) : xs_S := (if a2 = (0 : Int32) then fy_inner_0 a1 σ else (if a2 = (1 : Int32) then fy_inner_1 a1 σ else (if a2 = (2 : Int32) then fy_inner_2 a1 σ else (if a2 = (3 : Int32) then fy_inner_3 a1 σ else (if a2 = (4 : Int32) then fy_inner_4 a1 σ else (if a2 = (5 : Int32) then fy_inner_5 a1 σ else (if a2 = (6 : Int32) then fy_inner_6 a1 σ else fy_inner_7 a1 σ)))))))
theorem my_inner {l : Launch} {N n u : Nat} {a1 a2 : Int32} {σ : xs_S} (hl : l.stackTraces = false) (hn : 29 ≤ n) (hp1 : jr_R a2 7) (hJ : yx_J σ) : xm_m (xk_k N) l ty_inner [.ref 18, .int a1, .int a2] (n, u, σ, xr_0) (xe_w n u (fy_inner a1 a2 σ)) := by
  unfold fy_inner
  by_cases h0 : a2 = (0 : Int32)
  · rw [if_pos h0]; subst h0; exact my_inner_0 hl hn hJ
  · rw [if_neg h0]
    by_cases h1 : a2 = (1 : Int32)
    · rw [if_pos h1]; subst h1; exact my_inner_1 hl hn hJ
    · rw [if_neg h1]
      by_cases h2 : a2 = (2 : Int32)
      · rw [if_pos h2]; subst h2; exact my_inner_2 hl hn hJ
      · rw [if_neg h2]
        by_cases h3 : a2 = (3 : Int32)
        · rw [if_pos h3]; subst h3; exact my_inner_3 hl hn hJ
        · rw [if_neg h3]
          by_cases h4 : a2 = (4 : Int32)
          · rw [if_pos h4]; subst h4; exact my_inner_4 hl hn hJ
          · rw [if_neg h4]
            by_cases h5 : a2 = (5 : Int32)
            · rw [if_pos h5]; subst h5; exact my_inner_5 hl hn hJ
            · rw [if_neg h5]
              by_cases h6 : a2 = (6 : Int32)
              · rw [if_pos h6]; subst h6; exact my_inner_6 hl hn hJ
              · rw [if_neg h6]
                have h7 : a2 = (7 : Int32) := jr_7 hp1 h0 h1 h2 h3 h4 h5 h6
                subst h7; exact my_inner_7 hl hn hJ
theorem jy_inner {a1 a2 : Int32} {σ : xs_S} (_ : jr_R a2 7) (hJ : yx_J σ) : yx_J (fy_inner a1 a2 σ) := by
  unfold fy_inner
  by_cases h0 : a2 = (0 : Int32)
  · rw [if_pos h0]; exact jy_inner_0 hJ
  · rw [if_neg h0]
    by_cases h1 : a2 = (1 : Int32)
    · rw [if_pos h1]; exact jy_inner_1 hJ
    · rw [if_neg h1]
      by_cases h2 : a2 = (2 : Int32)
      · rw [if_pos h2]; exact jy_inner_2 hJ
      · rw [if_neg h2]
        by_cases h3 : a2 = (3 : Int32)
        · rw [if_pos h3]; exact jy_inner_3 hJ
        · rw [if_neg h3]
          by_cases h4 : a2 = (4 : Int32)
          · rw [if_pos h4]; exact jy_inner_4 hJ
          · rw [if_neg h4]
            by_cases h5 : a2 = (5 : Int32)
            · rw [if_pos h5]; exact jy_inner_5 hJ
            · rw [if_neg h5]
              by_cases h6 : a2 = (6 : Int32)
              · rw [if_pos h6]; exact jy_inner_6 hJ
              · rw [if_neg h6]
                exact jy_inner_7 hJ
