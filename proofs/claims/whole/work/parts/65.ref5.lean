def fy_begins (σ : xs_S) : xs_S := xl_l ((fy_keep σ)) (fun s1 => xl_l ((xu_u s1 18 10 ((0 : Int32) &&& 1))) (fun s2 => xl_l ((xu_u s2 18 11 ((0 : Int32) &&& 1))) (fun s3 => s3)))
set_option maxRecDepth 100000 in
set_option maxHeartbeats 4000000 in
theorem my_begins {l : Launch} {N n u : Nat} {σ : xs_S} (hl : l.stackTraces = false) (hn : 29 ≤ n) : xm_m (xk_k N) l ty_begins [.ref 18] (n, u, σ, xr_0) (xe_w n u (fy_begins σ)) := by
  refine xm_of hl ok_y_begins (Nat.le_of_ble_eq_true rfl) ?_
  show xw_w (xk_k N) l ty_begins 0 [some (.ref 18)] [] (n, u, σ, xr_0) (xe_w n u (fy_begins σ))
  unfold fy_begins
  refine xw_aload0 dy_begins_0 ?_
  refine xw_cW dy_begins_1 (lk_y_begins_1 (xl_n hn (by decide)) rfl) ok_y_keep (my_keep hl hn) ⟨Nat.le_of_ble_eq_true rfl, Nat.le_of_ble_eq_true rfl⟩ ?_
  refine xw_lw (fun s1 e_s1 => ?_)
  refine xw_aload0 dy_begins_4 ?_
  refine xw_iconst dy_begins_5 ki_0 ?_
  refine xw_putZ dy_begins_6 fl_y_161 nf_5_10 (by decide) (xl_n hn (by decide)) rfl ?_
  refine xw_lw (fun s2 e_s2 => ?_)
  refine xw_aload0 dy_begins_9 ?_
  refine xw_iconst dy_begins_10 ki_0 ?_
  refine xw_putZ dy_begins_11 fl_y_109 nf_5_11 (by decide) (xl_n hn (by decide)) rfl ?_
  refine xw_lw (fun s3 e_s3 => ?_)
  exact xw_vret dy_begins_14 rfl
theorem jy_begins {σ : xs_S} (hJ : yx_J σ) : yx_J (fy_begins σ) := by
  unfold fy_begins
  refine xj_wl (fun s1 e_s1 => ?_)
  have hJ_s1 : yx_J s1 := by rw [e_s1]; exact (jy_keep hJ)
  refine xj_wl (fun s2 e_s2 => ?_)
  have hJ_s2 : yx_J s2 := by rw [e_s2]; exact (yx_u hJ_s1 (by decide))
  refine xj_wl (fun s3 e_s3 => ?_)
  have hJ_s3 : yx_J s3 := by rw [e_s3]; exact (yx_u hJ_s2 (by decide))
  exact hJ_s3
def fy_ends (σ : xs_S) : Int32 × xs_S := (if (fy_isRaised σ) = 0 then xl_l ((if (σ 18 11) = 0 then (xu_u σ 20 19 (fy_nextIp σ)) else σ)) (fun s8 => ((0 : Int32), s8)) else xl_l ((σ 18 9)) (fun v2 => xl_l ((if (σ 18 10) = 0 then (fy_restore σ) else σ)) (fun s3 => xl_l ((fy_keep s3)) (fun s4 => xl_l ((fy_deliver (v2 / (65536 : Int32)) (0 : Int32) (v2 - v2 / (65536 : Int32) * (65536 : Int32)) s4)) (fun s5 => xl_l ((if (fy_isRaised s5) = 0 then s5 else (fy_deliver (8 : Int32) (0 : Int32) (0 : Int32) (fy_keep (fy_restore s5))))) (fun s6 => xl_l ((if (fy_isRaised s6) = 0 then s6 else (xu_u (fy_restore s6) 18 8 ((1 : Int32) &&& 1)))) (fun s7 => (v2, s7))))))))
set_option maxRecDepth 100000 in
set_option maxHeartbeats 4000000 in
theorem my_ends {l : Launch} {N n u : Nat} {σ : xs_S} (hl : l.stackTraces = false) (hn : 29 ≤ n) (hJ : yx_J σ) : xm_m (xk_k N) l ty_ends [.ref 18] (n, u, σ, xr_0) (xe_p ei_i n u (fy_ends σ)) := by
  refine xm_of hl ok_y_ends (Nat.le_of_ble_eq_true rfl) ?_
  show xw_w (xk_k N) l ty_ends 0 [some (.ref 18), none] [] (n, u, σ, xr_0) (xe_p ei_i n u (fy_ends σ))
  unfold fy_ends
  refine xw_aload0 dy_ends_0 ?_
  refine xw_cVi dy_ends_1 (lk_y_ends_1 (xl_n hn (by decide)) rfl) ok_y_isRaised (my_isRaised hl hn) ⟨Nat.le_of_ble_eq_true rfl, Nat.le_of_ble_eq_true rfl⟩ ?_
  refine xw_if_ne' dy_ends_4 rfl (fun h1 => ?_) (fun h1 => ?_)
  · refine xw_aload0 dy_ends_27 ?_
    refine xw_getI dy_ends_28 fl_y_19 (by decide) (xl_n hn (by decide)) rfl ?_
    refine xw_li (fun v2 e_v2 => ?_)
    refine xw_istore1 dy_ends_31 (Nat.le_of_ble_eq_true rfl) rfl ?_
    refine xw_aload0 dy_ends_32 ?_
    refine xw_getI dy_ends_33 fl_y_161 (by decide) (xl_n hn (by decide)) rfl ?_
    refine xw_if_ne_mw (J := 43) (a := (fy_restore σ)) (b := σ) dy_ends_36 rfl (fun _ E' k' => ?_) (fun _ E' k' => ?_) ?_
    · exact k'
    · refine xw_aload0 dy_ends_39 ?_
      refine xw_cW dy_ends_40 (lk_y_ends_40 (xl_n hn (by decide)) rfl) ok_y_restore (my_restore hl hn) ⟨Nat.le_of_ble_eq_true rfl, Nat.le_of_ble_eq_true rfl⟩ ?_
      exact k'
    refine xw_lw (fun s3 e_s3 => ?_)
    have hJ_s3 : yx_J s3 := by rw [e_s3]; exact (xj_i (fun _ => (jy_restore hJ)) (fun _ => hJ))
    refine xw_aload0 dy_ends_43 ?_
    refine xw_cW dy_ends_44 (lk_y_ends_44 (xl_n hn (by decide)) rfl) ok_y_keep (my_keep hl hn) ⟨Nat.le_of_ble_eq_true rfl, Nat.le_of_ble_eq_true rfl⟩ ?_
    refine xw_lw (fun s4 e_s4 => ?_)
    have hJ_s4 : yx_J s4 := by rw [e_s4]; exact (jy_keep hJ_s3)
    refine xw_aload0 dy_ends_47 ?_
    refine xw_iload1 dy_ends_48 ?_
    refine xw_ldc dy_ends_49 kc_y_45 ?_
    refine xw_idiv dy_ends_51 nz_65536 ?_
    refine xw_iconst dy_ends_52 ki_0 ?_
    refine xw_iload1 dy_ends_53 ?_
    refine xw_ldc dy_ends_54 kc_y_45 ?_
    refine xw_irem dy_ends_56 nz_65536 ?_
    refine xw_cW dy_ends_57 (lk_y_ends_57 (xl_n hn (by decide)) rfl) ok_y_deliver (my_deliver hl hn hJ_s4) ⟨Nat.le_of_ble_eq_true rfl, Nat.le_of_ble_eq_true rfl⟩ ?_
    refine xw_lw (fun s5 e_s5 => ?_)
    have hJ_s5 : yx_J s5 := by rw [e_s5]; exact (jy_deliver hJ_s4)
    refine xw_aload0 dy_ends_60 ?_
    refine xw_cVi dy_ends_61 (lk_y_ends_61 (xl_n hn (by decide)) rfl) ok_y_isRaised (my_isRaised hl hn) ⟨Nat.le_of_ble_eq_true rfl, Nat.le_of_ble_eq_true rfl⟩ ?_
    refine xw_if_eq_mw (J := 83) (a := s5) (b := (fy_deliver (8 : Int32) (0 : Int32) (0 : Int32) (fy_keep (fy_restore s5)))) dy_ends_64 rfl (fun _ E' k' => ?_) (fun _ E' k' => ?_) ?_
    · exact k'
    · refine xw_aload0 dy_ends_67 ?_
      refine xw_cW dy_ends_68 (lk_y_ends_68 (xl_n hn (by decide)) rfl) ok_y_restore (my_restore hl hn) ⟨Nat.le_of_ble_eq_true rfl, Nat.le_of_ble_eq_true rfl⟩ ?_
      refine xw_aload0 dy_ends_71 ?_
      refine xw_cW dy_ends_72 (lk_y_ends_72 (xl_n hn (by decide)) rfl) ok_y_keep (my_keep hl hn) ⟨Nat.le_of_ble_eq_true rfl, Nat.le_of_ble_eq_true rfl⟩ ?_
      refine xw_aload0 dy_ends_75 ?_
      refine xw_bipush dy_ends_76 kb_8 ?_
      refine xw_iconst dy_ends_78 ki_0 ?_
      refine xw_iconst dy_ends_79 ki_0 ?_
      refine xw_cW dy_ends_80 (lk_y_ends_80 (xl_n hn (by decide)) rfl) ok_y_deliver (my_deliver hl hn (jy_keep (jy_restore hJ_s5))) ⟨Nat.le_of_ble_eq_true rfl, Nat.le_of_ble_eq_true rfl⟩ ?_
      exact k'
    refine xw_lw (fun s6 e_s6 => ?_)
    have hJ_s6 : yx_J s6 := by rw [e_s6]; exact (xj_i (fun _ => hJ_s5) (fun _ => (jy_deliver (jy_keep (jy_restore hJ_s5)))))
    refine xw_aload0 dy_ends_83 ?_
    refine xw_cVi dy_ends_84 (lk_y_ends_84 (xl_n hn (by decide)) rfl) ok_y_isRaised (my_isRaised hl hn) ⟨Nat.le_of_ble_eq_true rfl, Nat.le_of_ble_eq_true rfl⟩ ?_
    refine xw_if_eq_mw (J := 99) (a := s6) (b := (xu_u (fy_restore s6) 18 8 ((1 : Int32) &&& 1))) dy_ends_87 rfl (fun _ E' k' => ?_) (fun _ E' k' => ?_) ?_
    · exact k'
    · refine xw_aload0 dy_ends_90 ?_
      refine xw_cW dy_ends_91 (lk_y_ends_91 (xl_n hn (by decide)) rfl) ok_y_restore (my_restore hl hn) ⟨Nat.le_of_ble_eq_true rfl, Nat.le_of_ble_eq_true rfl⟩ ?_
      refine xw_aload0 dy_ends_94 ?_
      refine xw_iconst dy_ends_95 ki_1 ?_
      refine xw_putZ dy_ends_96 fl_y_177 nf_5_8 (by decide) (xl_n hn (by decide)) rfl ?_
      exact k'
    refine xw_lw (fun s7 e_s7 => ?_)
    have hJ_s7 : yx_J s7 := by rw [e_s7]; exact (xj_i (fun _ => hJ_s6) (fun _ => (yx_u (jy_restore hJ_s6) (by decide))))
    refine xw_iload1 dy_ends_99 ?_
    exact xw_iret dy_ends_100 rfl
  · refine xw_aload0 dy_ends_7 ?_
    refine xw_getI dy_ends_8 fl_y_109 (by decide) (xl_n hn (by decide)) rfl ?_
    refine xw_if_ne_mw (J := 25) (a := (xu_u σ 20 19 (fy_nextIp σ))) (b := σ) dy_ends_11 rfl (fun _ E' k' => ?_) (fun _ E' k' => ?_) ?_
    · exact k'
    · refine xw_aload0 dy_ends_14 ?_
      refine xw_getR dy_ends_15 fl_y_13 (xl_n hn (by decide)) rfl r_18_5 ?_
      refine xw_bipush dy_ends_18 kb_19 ?_
      refine xw_aload0 dy_ends_20 ?_
      refine xw_cVi dy_ends_21 (lk_y_ends_21 (xl_n hn (by decide)) rfl) ok_y_nextIp (my_nextIp hl hn) ⟨Nat.le_of_ble_eq_true rfl, Nat.le_of_ble_eq_true rfl⟩ ?_
      refine xw_iast dy_ends_24 (by decide) (xl_n hn (by decide)) rfl vc_19_26 cn_19 ?_
      exact k'
    refine xw_lw (fun s8 e_s8 => ?_)
    have hJ_s8 : yx_J s8 := by rw [e_s8]; exact (xj_i (fun _ => (yx_u hJ (by decide))) (fun _ => hJ))
    refine xw_iconst dy_ends_25 ki_0 ?_
    exact xw_iret dy_ends_26 rfl
theorem jy_ends {σ : xs_S} (hJ : yx_J σ) : yx_J (fy_ends σ).2 := by
  unfold fy_ends
  refine xj_f (fun h1 => ?_) (fun h1 => ?_)
  · refine xj_l (fun s8 e_s8 => ?_)
    have hJ_s8 : yx_J s8 := by rw [e_s8]; exact (xj_i (fun _ => (yx_u hJ (by decide))) (fun _ => hJ))
    exact hJ_s8
  · refine xj_l (fun v2 e_v2 => ?_)
    refine xj_l (fun s3 e_s3 => ?_)
    have hJ_s3 : yx_J s3 := by rw [e_s3]; exact (xj_i (fun _ => (jy_restore hJ)) (fun _ => hJ))
    refine xj_l (fun s4 e_s4 => ?_)
    have hJ_s4 : yx_J s4 := by rw [e_s4]; exact (jy_keep hJ_s3)
    refine xj_l (fun s5 e_s5 => ?_)
    have hJ_s5 : yx_J s5 := by rw [e_s5]; exact (jy_deliver hJ_s4)
    refine xj_l (fun s6 e_s6 => ?_)
    have hJ_s6 : yx_J s6 := by rw [e_s6]; exact (xj_i (fun _ => hJ_s5) (fun _ => (jy_deliver (jy_keep (jy_restore hJ_s5)))))
    refine xj_l (fun s7 e_s7 => ?_)
    have hJ_s7 : yx_J s7 := by rw [e_s7]; exact (xj_i (fun _ => hJ_s6) (fun _ => (yx_u (jy_restore hJ_s6) (by decide))))
    exact hJ_s7
def fy_loadData (a1 : Int32) (σ : xs_S) : xs_S := (if (fy_isNull a1 σ) = 0 then xl_l ((fy_lookUp a1 (0 : Int32) σ)) (fun s2 => (if (fy_isRaised s2) = 0 then xl_l ((s2 24 0)) (fun v4 => xl_l ((if v4 = (2 : Int32) then (0 : Int32) else (if (s2 25 0) < (s2 20 21) then (1 : Int32) else (if (a1 &&& (3 : Int32)) ≤ (s2 25 0) then (0 : Int32) else (1 : Int32))))) (fun v5 => (if v4 < (1 : Int32) then xl_l ((fy_raise (13 : Int32) (fy_codeOf a1 s2) s2)) (fun s7 => s7) else (if (4 : Int32) < v4 then xl_l ((fy_raise (13 : Int32) (fy_codeOf a1 s2) s2)) (fun s9 => s9) else (if v5 = 0 then (if (s2 26 0) = 0 then xl_l ((fy_raise (11 : Int32) (fy_codeOf a1 s2) s2)) (fun s13 => s13) else xl_l ((fy_setSegment (2 : Int32) a1 (0 : Int32) s2)) (fun s12 => s12)) else xl_l ((fy_raise (13 : Int32) (fy_codeOf a1 s2) s2)) (fun s14 => s14)))))) else s2)) else xl_l ((fy_setNull (2 : Int32) a1 σ)) (fun s15 => s15))
set_option maxRecDepth 100000 in
set_option maxHeartbeats 4000000 in
theorem my_loadData {l : Launch} {N n u : Nat} {a1 : Int32} {σ : xs_S} (hl : l.stackTraces = false) (hn : 29 ≤ n) (hJ : yx_J σ) : xm_m (xk_k N) l ty_loadData [.ref 18, .int a1] (n, u, σ, xr_0) (xe_w n u (fy_loadData a1 σ)) := by
  refine xm_of hl ok_y_loadData (Nat.le_of_ble_eq_true rfl) ?_
  show xw_w (xk_k N) l ty_loadData 0 [some (.ref 18), some (.int a1), none, none] [] (n, u, σ, xr_0) (xe_w n u (fy_loadData a1 σ))
  unfold fy_loadData
  refine xw_iload1 dy_loadData_0 ?_
  refine xw_cVi dy_loadData_1 (lk_y_loadData_1) ok_y_isNull (my_isNull hl hn) ⟨Nat.le_of_ble_eq_true rfl, Nat.le_of_ble_eq_true rfl⟩ ?_
  refine xw_if_eq' dy_loadData_4 rfl (fun h1 => ?_) (fun h1 => ?_)
  · refine xw_aload0 dy_loadData_14 ?_
    refine xw_iload1 dy_loadData_15 ?_
    refine xw_iconst dy_loadData_16 ki_0 ?_
    refine xw_cW dy_loadData_17 (lk_y_loadData_17 (xl_n hn (by decide)) rfl) ok_y_lookUp (my_lookUp hl hn vc_0_2 hJ) ⟨Nat.le_of_ble_eq_true rfl, Nat.le_of_ble_eq_true rfl⟩ ?_
    refine xw_lw (fun s2 e_s2 => ?_)
    have hJ_s2 : yx_J s2 := by rw [e_s2]; exact (jy_lookUp vc_0_2 hJ)
    refine xw_aload0 dy_loadData_20 ?_
    refine xw_cVi dy_loadData_21 (lk_y_loadData_21 (xl_n hn (by decide)) rfl) ok_y_isRaised (my_isRaised hl hn) ⟨Nat.le_of_ble_eq_true rfl, Nat.le_of_ble_eq_true rfl⟩ ?_
    refine xw_if_eq' dy_loadData_24 rfl (fun h3 => ?_) (fun h3 => ?_)
    · refine xw_aload0 dy_loadData_28 ?_
      refine xw_getR dy_loadData_29 fl_y_29 (xl_n hn (by decide)) rfl r_18_14 ?_
      refine xw_iconst dy_loadData_32 ki_0 ?_
      refine xw_iald dy_loadData_33 (xl_n hn (by decide)) rfl vc_0_2 cn_0 ?_
      refine xw_li (fun v4 e_v4 => ?_)
      refine xw_istore2 dy_loadData_34 (Nat.le_of_ble_eq_true rfl) rfl ?_
      refine xw_iload2 dy_loadData_35 ?_
      refine xw_iconst dy_loadData_36 ki_2 ?_
      refine xw_icmp_eq_mi (J := 73) (a := (0 : Int32)) (b := (if (s2 25 0) < (s2 20 21) then (1 : Int32) else (if (a1 &&& (3 : Int32)) ≤ (s2 25 0) then (0 : Int32) else (1 : Int32)))) dy_loadData_37 rfl (fun _ E' k' => ?_) (fun _ E' k' => ?_) ?_
      · refine xw_iconst dy_loadData_72 ki_0 ?_
        exact k'
      · refine xw_aload0 dy_loadData_40 ?_
        refine xw_getR dy_loadData_41 fl_y_32 (xl_n hn (by decide)) rfl r_18_15 ?_
        refine xw_iconst dy_loadData_44 ki_0 ?_
        refine xw_iald dy_loadData_45 (xl_n hn (by decide)) rfl vc_0_2 cn_0 ?_
        refine xw_aload0 dy_loadData_46 ?_
        refine xw_getR dy_loadData_47 fl_y_13 (xl_n hn (by decide)) rfl r_18_5 ?_
        refine xw_bipush dy_loadData_50 kb_21 ?_
        refine xw_iald dy_loadData_52 (xl_n hn (by decide)) rfl vc_21_26 cn_21 ?_
        refine xw_icmp_lt_mi (J := 73) (a := (1 : Int32)) (b := (if (a1 &&& (3 : Int32)) ≤ (s2 25 0) then (0 : Int32) else (1 : Int32))) dy_loadData_53 rfl (fun _ E' k' => ?_) (fun _ E' k' => ?_) ?_
        · refine xw_iconst dy_loadData_68 ki_1 ?_
          refine xw_goto dy_loadData_69 rfl ?_
          exact k'
        · refine xw_aload0 dy_loadData_56 ?_
          refine xw_getR dy_loadData_57 fl_y_32 (xl_n hn (by decide)) rfl r_18_15 ?_
          refine xw_iconst dy_loadData_60 ki_0 ?_
          refine xw_iald dy_loadData_61 (xl_n hn (by decide)) rfl vc_0_2 cn_0 ?_
          refine xw_iload1 dy_loadData_62 ?_
          refine xw_iconst dy_loadData_63 ki_3 ?_
          refine xw_iand dy_loadData_64 ?_
          refine xw_icmp_ge_mi (J := 73) (a := (0 : Int32)) (b := (1 : Int32)) dy_loadData_65 rfl (fun _ E' k' => ?_) (fun _ E' k' => ?_) ?_
          · refine xw_iconst dy_loadData_72 ki_0 ?_
            exact k'
          · refine xw_iconst dy_loadData_68 ki_1 ?_
            refine xw_goto dy_loadData_69 rfl ?_
            exact k'
          exact k'
        exact k'
      refine xw_li (fun v5 e_v5 => ?_)
      refine xw_istore3 dy_loadData_73 (Nat.le_of_ble_eq_true rfl) rfl ?_
      refine xw_iload2 dy_loadData_74 ?_
      refine xw_iconst dy_loadData_75 ki_1 ?_
      refine xw_icmp_lt' dy_loadData_76 rfl (fun h6 => ?_) (fun h6 => ?_)
      · refine xw_aload0 dy_loadData_88 ?_
        refine xw_bipush dy_loadData_89 kb_13 ?_
        refine xw_iload1 dy_loadData_91 ?_
        refine xw_cVi dy_loadData_92 (lk_y_loadData_92) ok_y_codeOf (my_codeOf hl hn) ⟨Nat.le_of_ble_eq_true rfl, Nat.le_of_ble_eq_true rfl⟩ ?_
        refine xw_cW dy_loadData_95 (lk_y_loadData_95 (xl_n hn (by decide)) rfl) ok_y_raise (my_raise hl hn) ⟨Nat.le_of_ble_eq_true rfl, Nat.le_of_ble_eq_true rfl⟩ ?_
        refine xw_lw (fun s7 e_s7 => ?_)
        have hJ_s7 : yx_J s7 := by rw [e_s7]; exact (jy_raise hJ_s2)
        refine xw_goto dy_loadData_98 rfl ?_
        exact xw_vret dy_loadData_130 rfl
      · refine xw_iload2 dy_loadData_79 ?_
        refine xw_iconst dy_loadData_80 ki_4 ?_
        refine xw_icmp_gt' dy_loadData_81 rfl (fun h8 => ?_) (fun h8 => ?_)
        · refine xw_aload0 dy_loadData_88 ?_
          refine xw_bipush dy_loadData_89 kb_13 ?_
          refine xw_iload1 dy_loadData_91 ?_
          refine xw_cVi dy_loadData_92 (lk_y_loadData_92) ok_y_codeOf (my_codeOf hl hn) ⟨Nat.le_of_ble_eq_true rfl, Nat.le_of_ble_eq_true rfl⟩ ?_
          refine xw_cW dy_loadData_95 (lk_y_loadData_95 (xl_n hn (by decide)) rfl) ok_y_raise (my_raise hl hn) ⟨Nat.le_of_ble_eq_true rfl, Nat.le_of_ble_eq_true rfl⟩ ?_
          refine xw_lw (fun s9 e_s9 => ?_)
          have hJ_s9 : yx_J s9 := by rw [e_s9]; exact (jy_raise hJ_s2)
          refine xw_goto dy_loadData_98 rfl ?_
          exact xw_vret dy_loadData_130 rfl
        · refine xw_iload3 dy_loadData_84 ?_
          refine xw_if_eq' dy_loadData_85 rfl (fun h10 => ?_) (fun h10 => ?_)
          · refine xw_aload0 dy_loadData_101 ?_
            refine xw_getR dy_loadData_102 fl_y_35 (xl_n hn (by decide)) rfl r_18_16 ?_
            refine xw_iconst dy_loadData_105 ki_0 ?_
            refine xw_zald dy_loadData_106 (xl_n hn (by decide)) rfl vc_0_2 cn_0 ?_
            refine xw_if_ne' dy_loadData_107 rfl (fun h11 => ?_) (fun h11 => ?_)
            · refine xw_aload0 dy_loadData_123 ?_
              refine xw_iconst dy_loadData_124 ki_2 ?_
              refine xw_iload1 dy_loadData_125 ?_
              refine xw_iconst dy_loadData_126 ki_0 ?_
              refine xw_cW dy_loadData_127 (lk_y_loadData_127 (xl_n hn (by decide)) rfl) ok_y_setSegment (my_setSegment hl hn vc_2_3 vc_0_2) ⟨Nat.le_of_ble_eq_true rfl, Nat.le_of_ble_eq_true rfl⟩ ?_
              refine xw_lw (fun s12 e_s12 => ?_)
              have hJ_s12 : yx_J s12 := by rw [e_s12]; exact (jy_setSegment vc_2_3 vc_0_2 hJ_s2)
              exact xw_vret dy_loadData_130 rfl
            · refine xw_aload0 dy_loadData_110 ?_
              refine xw_bipush dy_loadData_111 kb_11 ?_
              refine xw_iload1 dy_loadData_113 ?_
              refine xw_cVi dy_loadData_114 (lk_y_loadData_114) ok_y_codeOf (my_codeOf hl hn) ⟨Nat.le_of_ble_eq_true rfl, Nat.le_of_ble_eq_true rfl⟩ ?_
              refine xw_cW dy_loadData_117 (lk_y_loadData_117 (xl_n hn (by decide)) rfl) ok_y_raise (my_raise hl hn) ⟨Nat.le_of_ble_eq_true rfl, Nat.le_of_ble_eq_true rfl⟩ ?_
              refine xw_lw (fun s13 e_s13 => ?_)
              have hJ_s13 : yx_J s13 := by rw [e_s13]; exact (jy_raise hJ_s2)
              refine xw_goto dy_loadData_120 rfl ?_
              exact xw_vret dy_loadData_130 rfl
          · refine xw_aload0 dy_loadData_88 ?_
            refine xw_bipush dy_loadData_89 kb_13 ?_
            refine xw_iload1 dy_loadData_91 ?_
            refine xw_cVi dy_loadData_92 (lk_y_loadData_92) ok_y_codeOf (my_codeOf hl hn) ⟨Nat.le_of_ble_eq_true rfl, Nat.le_of_ble_eq_true rfl⟩ ?_
            refine xw_cW dy_loadData_95 (lk_y_loadData_95 (xl_n hn (by decide)) rfl) ok_y_raise (my_raise hl hn) ⟨Nat.le_of_ble_eq_true rfl, Nat.le_of_ble_eq_true rfl⟩ ?_
            refine xw_lw (fun s14 e_s14 => ?_)
            have hJ_s14 : yx_J s14 := by rw [e_s14]; exact (jy_raise hJ_s2)
            refine xw_goto dy_loadData_98 rfl ?_
            exact xw_vret dy_loadData_130 rfl
    · exact xw_vret dy_loadData_27 rfl
  · refine xw_aload0 dy_loadData_7 ?_
    refine xw_iconst dy_loadData_8 ki_2 ?_
    refine xw_iload1 dy_loadData_9 ?_
    refine xw_cW dy_loadData_10 (lk_y_loadData_10 (xl_n hn (by decide)) rfl) ok_y_setNull (my_setNull hl hn vc_2_3) ⟨Nat.le_of_ble_eq_true rfl, Nat.le_of_ble_eq_true rfl⟩ ?_
    refine xw_lw (fun s15 e_s15 => ?_)
    have hJ_s15 : yx_J s15 := by rw [e_s15]; exact (jy_setNull vc_2_3 hJ)
    exact xw_vret dy_loadData_13 rfl
theorem jy_loadData {a1 : Int32} {σ : xs_S} (hJ : yx_J σ) : yx_J (fy_loadData a1 σ) := by
  unfold fy_loadData
  refine xj_wf (fun h1 => ?_) (fun h1 => ?_)
  · refine xj_wl (fun s2 e_s2 => ?_)
    have hJ_s2 : yx_J s2 := by rw [e_s2]; exact (jy_lookUp vc_0_2 hJ)
    refine xj_wf (fun h3 => ?_) (fun h3 => ?_)
    · refine xj_wl (fun v4 e_v4 => ?_)
      refine xj_wl (fun v5 e_v5 => ?_)
      refine xj_wf (fun h6 => ?_) (fun h6 => ?_)
      · refine xj_wl (fun s7 e_s7 => ?_)
        have hJ_s7 : yx_J s7 := by rw [e_s7]; exact (jy_raise hJ_s2)
        exact hJ_s7
      · refine xj_wf (fun h8 => ?_) (fun h8 => ?_)
        · refine xj_wl (fun s9 e_s9 => ?_)
          have hJ_s9 : yx_J s9 := by rw [e_s9]; exact (jy_raise hJ_s2)
          exact hJ_s9
        · refine xj_wf (fun h10 => ?_) (fun h10 => ?_)
          · refine xj_wf (fun h11 => ?_) (fun h11 => ?_)
            · refine xj_wl (fun s13 e_s13 => ?_)
              have hJ_s13 : yx_J s13 := by rw [e_s13]; exact (jy_raise hJ_s2)
              exact hJ_s13
            · refine xj_wl (fun s12 e_s12 => ?_)
              have hJ_s12 : yx_J s12 := by rw [e_s12]; exact (jy_setSegment vc_2_3 vc_0_2 hJ_s2)
              exact hJ_s12
          · refine xj_wl (fun s14 e_s14 => ?_)
            have hJ_s14 : yx_J s14 := by rw [e_s14]; exact (jy_raise hJ_s2)
            exact hJ_s14
    · exact hJ_s2
  · refine xj_wl (fun s15 e_s15 => ?_)
    have hJ_s15 : yx_J s15 := by rw [e_s15]; exact (jy_setNull vc_2_3 hJ)
    exact hJ_s15
def fy_loadStack (a1 : Int32) (σ : xs_S) : xs_S := xl_l ((if (fy_isNull a1 σ) = 0 then (fy_lookUp a1 (0 : Int32) σ) else (fy_raise (13 : Int32) (0 : Int32) σ))) (fun s1 => (if (fy_isRaised s1) = 0 then (if (a1 &&& (3 : Int32)) = (s1 20 21) then (if (s1 25 0) = (s1 20 21) then (if (s1 24 0) = (4 : Int32) then (if (s1 26 0) = 0 then xl_l ((fy_raise (12 : Int32) (fy_codeOf a1 s1) s1)) (fun s10 => s10) else xl_l ((fy_setSegment (1 : Int32) a1 (0 : Int32) s1)) (fun s9 => s9)) else xl_l ((fy_raise (13 : Int32) (fy_codeOf a1 s1) s1)) (fun s11 => s11)) else xl_l ((fy_raise (13 : Int32) (fy_codeOf a1 s1) s1)) (fun s6 => s6)) else xl_l ((fy_raise (13 : Int32) (fy_codeOf a1 s1) s1)) (fun s4 => s4)) else s1))
set_option maxRecDepth 100000 in
set_option maxHeartbeats 4000000 in
theorem my_loadStack {l : Launch} {N n u : Nat} {a1 : Int32} {σ : xs_S} (hl : l.stackTraces = false) (hn : 29 ≤ n) (hJ : yx_J σ) : xm_m (xk_k N) l ty_loadStack [.ref 18, .int a1] (n, u, σ, xr_0) (xe_w n u (fy_loadStack a1 σ)) := by
  refine xm_of hl ok_y_loadStack (Nat.le_of_ble_eq_true rfl) ?_
  show xw_w (xk_k N) l ty_loadStack 0 [some (.ref 18), some (.int a1)] [] (n, u, σ, xr_0) (xe_w n u (fy_loadStack a1 σ))
  unfold fy_loadStack
  refine xw_iload1 dy_loadStack_0 ?_
  refine xw_cVi dy_loadStack_1 (lk_y_loadStack_1) ok_y_isNull (my_isNull hl hn) ⟨Nat.le_of_ble_eq_true rfl, Nat.le_of_ble_eq_true rfl⟩ ?_
  refine xw_if_eq_mw (J := 23) (a := (fy_lookUp a1 (0 : Int32) σ)) (b := (fy_raise (13 : Int32) (0 : Int32) σ)) dy_loadStack_4 rfl (fun _ E' k' => ?_) (fun _ E' k' => ?_) ?_
  · refine xw_aload0 dy_loadStack_17 ?_
    refine xw_iload1 dy_loadStack_18 ?_
    refine xw_iconst dy_loadStack_19 ki_0 ?_
    refine xw_cW dy_loadStack_20 (lk_y_loadStack_20 (xl_n hn (by decide)) rfl) ok_y_lookUp (my_lookUp hl hn vc_0_2 hJ) ⟨Nat.le_of_ble_eq_true rfl, Nat.le_of_ble_eq_true rfl⟩ ?_
    exact k'
  · refine xw_aload0 dy_loadStack_7 ?_
    refine xw_bipush dy_loadStack_8 kb_13 ?_
    refine xw_iconst dy_loadStack_10 ki_0 ?_
    refine xw_cW dy_loadStack_11 (lk_y_loadStack_11 (xl_n hn (by decide)) rfl) ok_y_raise (my_raise hl hn) ⟨Nat.le_of_ble_eq_true rfl, Nat.le_of_ble_eq_true rfl⟩ ?_
    refine xw_goto dy_loadStack_14 rfl ?_
    exact k'
  refine xw_lw (fun s1 e_s1 => ?_)
  have hJ_s1 : yx_J s1 := by rw [e_s1]; exact (xj_i (fun _ => (jy_lookUp vc_0_2 hJ)) (fun _ => (jy_raise hJ)))
  refine xw_aload0 dy_loadStack_23 ?_
  refine xw_cVi dy_loadStack_24 (lk_y_loadStack_24 (xl_n hn (by decide)) rfl) ok_y_isRaised (my_isRaised hl hn) ⟨Nat.le_of_ble_eq_true rfl, Nat.le_of_ble_eq_true rfl⟩ ?_
  refine xw_if_eq' dy_loadStack_27 rfl (fun h2 => ?_) (fun h2 => ?_)
  · refine xw_iload1 dy_loadStack_31 ?_
    refine xw_iconst dy_loadStack_32 ki_3 ?_
    refine xw_iand dy_loadStack_33 ?_
    refine xw_aload0 dy_loadStack_34 ?_
    refine xw_getR dy_loadStack_35 fl_y_13 (xl_n hn (by decide)) rfl r_18_5 ?_
    refine xw_bipush dy_loadStack_38 kb_21 ?_
    refine xw_iald dy_loadStack_40 (xl_n hn (by decide)) rfl vc_21_26 cn_21 ?_
    refine xw_icmp_ne' dy_loadStack_41 rfl (fun h3 => ?_) (fun h3 => ?_)
    · refine xw_aload0 dy_loadStack_70 ?_
      refine xw_bipush dy_loadStack_71 kb_13 ?_
      refine xw_iload1 dy_loadStack_73 ?_
      refine xw_cVi dy_loadStack_74 (lk_y_loadStack_74) ok_y_codeOf (my_codeOf hl hn) ⟨Nat.le_of_ble_eq_true rfl, Nat.le_of_ble_eq_true rfl⟩ ?_
      refine xw_cW dy_loadStack_77 (lk_y_loadStack_77 (xl_n hn (by decide)) rfl) ok_y_raise (my_raise hl hn) ⟨Nat.le_of_ble_eq_true rfl, Nat.le_of_ble_eq_true rfl⟩ ?_
      refine xw_lw (fun s4 e_s4 => ?_)
      have hJ_s4 : yx_J s4 := by rw [e_s4]; exact (jy_raise hJ_s1)
      refine xw_goto dy_loadStack_80 rfl ?_
      exact xw_vret dy_loadStack_112 rfl
    · refine xw_aload0 dy_loadStack_44 ?_
      refine xw_getR dy_loadStack_45 fl_y_32 (xl_n hn (by decide)) rfl r_18_15 ?_
      refine xw_iconst dy_loadStack_48 ki_0 ?_
      refine xw_iald dy_loadStack_49 (xl_n hn (by decide)) rfl vc_0_2 cn_0 ?_
      refine xw_aload0 dy_loadStack_50 ?_
      refine xw_getR dy_loadStack_51 fl_y_13 (xl_n hn (by decide)) rfl r_18_5 ?_
      refine xw_bipush dy_loadStack_54 kb_21 ?_
      refine xw_iald dy_loadStack_56 (xl_n hn (by decide)) rfl vc_21_26 cn_21 ?_
      refine xw_icmp_ne' dy_loadStack_57 rfl (fun h5 => ?_) (fun h5 => ?_)
      · refine xw_aload0 dy_loadStack_70 ?_
        refine xw_bipush dy_loadStack_71 kb_13 ?_
        refine xw_iload1 dy_loadStack_73 ?_
        refine xw_cVi dy_loadStack_74 (lk_y_loadStack_74) ok_y_codeOf (my_codeOf hl hn) ⟨Nat.le_of_ble_eq_true rfl, Nat.le_of_ble_eq_true rfl⟩ ?_
        refine xw_cW dy_loadStack_77 (lk_y_loadStack_77 (xl_n hn (by decide)) rfl) ok_y_raise (my_raise hl hn) ⟨Nat.le_of_ble_eq_true rfl, Nat.le_of_ble_eq_true rfl⟩ ?_
        refine xw_lw (fun s6 e_s6 => ?_)
        have hJ_s6 : yx_J s6 := by rw [e_s6]; exact (jy_raise hJ_s1)
        refine xw_goto dy_loadStack_80 rfl ?_
        exact xw_vret dy_loadStack_112 rfl
      · refine xw_aload0 dy_loadStack_60 ?_
        refine xw_getR dy_loadStack_61 fl_y_29 (xl_n hn (by decide)) rfl r_18_14 ?_
        refine xw_iconst dy_loadStack_64 ki_0 ?_
        refine xw_iald dy_loadStack_65 (xl_n hn (by decide)) rfl vc_0_2 cn_0 ?_
        refine xw_iconst dy_loadStack_66 ki_4 ?_
        refine xw_icmp_eq' dy_loadStack_67 rfl (fun h7 => ?_) (fun h7 => ?_)
        · refine xw_aload0 dy_loadStack_83 ?_
          refine xw_getR dy_loadStack_84 fl_y_35 (xl_n hn (by decide)) rfl r_18_16 ?_
          refine xw_iconst dy_loadStack_87 ki_0 ?_
          refine xw_zald dy_loadStack_88 (xl_n hn (by decide)) rfl vc_0_2 cn_0 ?_
          refine xw_if_ne' dy_loadStack_89 rfl (fun h8 => ?_) (fun h8 => ?_)
          · refine xw_aload0 dy_loadStack_105 ?_
            refine xw_iconst dy_loadStack_106 ki_1 ?_
            refine xw_iload1 dy_loadStack_107 ?_
            refine xw_iconst dy_loadStack_108 ki_0 ?_
            refine xw_cW dy_loadStack_109 (lk_y_loadStack_109 (xl_n hn (by decide)) rfl) ok_y_setSegment (my_setSegment hl hn vc_1_3 vc_0_2) ⟨Nat.le_of_ble_eq_true rfl, Nat.le_of_ble_eq_true rfl⟩ ?_
            refine xw_lw (fun s9 e_s9 => ?_)
            have hJ_s9 : yx_J s9 := by rw [e_s9]; exact (jy_setSegment vc_1_3 vc_0_2 hJ_s1)
            exact xw_vret dy_loadStack_112 rfl
          · refine xw_aload0 dy_loadStack_92 ?_
            refine xw_bipush dy_loadStack_93 kb_12 ?_
            refine xw_iload1 dy_loadStack_95 ?_
            refine xw_cVi dy_loadStack_96 (lk_y_loadStack_96) ok_y_codeOf (my_codeOf hl hn) ⟨Nat.le_of_ble_eq_true rfl, Nat.le_of_ble_eq_true rfl⟩ ?_
            refine xw_cW dy_loadStack_99 (lk_y_loadStack_99 (xl_n hn (by decide)) rfl) ok_y_raise (my_raise hl hn) ⟨Nat.le_of_ble_eq_true rfl, Nat.le_of_ble_eq_true rfl⟩ ?_
            refine xw_lw (fun s10 e_s10 => ?_)
            have hJ_s10 : yx_J s10 := by rw [e_s10]; exact (jy_raise hJ_s1)
            refine xw_goto dy_loadStack_102 rfl ?_
            exact xw_vret dy_loadStack_112 rfl
        · refine xw_aload0 dy_loadStack_70 ?_
          refine xw_bipush dy_loadStack_71 kb_13 ?_
          refine xw_iload1 dy_loadStack_73 ?_
          refine xw_cVi dy_loadStack_74 (lk_y_loadStack_74) ok_y_codeOf (my_codeOf hl hn) ⟨Nat.le_of_ble_eq_true rfl, Nat.le_of_ble_eq_true rfl⟩ ?_
          refine xw_cW dy_loadStack_77 (lk_y_loadStack_77 (xl_n hn (by decide)) rfl) ok_y_raise (my_raise hl hn) ⟨Nat.le_of_ble_eq_true rfl, Nat.le_of_ble_eq_true rfl⟩ ?_
          refine xw_lw (fun s11 e_s11 => ?_)
          have hJ_s11 : yx_J s11 := by rw [e_s11]; exact (jy_raise hJ_s1)
          refine xw_goto dy_loadStack_80 rfl ?_
          exact xw_vret dy_loadStack_112 rfl
  · exact xw_vret dy_loadStack_30 rfl
theorem jy_loadStack {a1 : Int32} {σ : xs_S} (hJ : yx_J σ) : yx_J (fy_loadStack a1 σ) := by
  unfold fy_loadStack
  refine xj_wl (fun s1 e_s1 => ?_)
  have hJ_s1 : yx_J s1 := by rw [e_s1]; exact (xj_i (fun _ => (jy_lookUp vc_0_2 hJ)) (fun _ => (jy_raise hJ)))
  refine xj_wf (fun h2 => ?_) (fun h2 => ?_)
  · refine xj_wf (fun h3 => ?_) (fun h3 => ?_)
    · refine xj_wf (fun h5 => ?_) (fun h5 => ?_)
      · refine xj_wf (fun h7 => ?_) (fun h7 => ?_)
        · refine xj_wf (fun h8 => ?_) (fun h8 => ?_)
          · refine xj_wl (fun s10 e_s10 => ?_)
            have hJ_s10 : yx_J s10 := by rw [e_s10]; exact (jy_raise hJ_s1)
            exact hJ_s10
          · refine xj_wl (fun s9 e_s9 => ?_)
            have hJ_s9 : yx_J s9 := by rw [e_s9]; exact (jy_setSegment vc_1_3 vc_0_2 hJ_s1)
            exact hJ_s9
        · refine xj_wl (fun s11 e_s11 => ?_)
          have hJ_s11 : yx_J s11 := by rw [e_s11]; exact (jy_raise hJ_s1)
          exact hJ_s11
      · refine xj_wl (fun s6 e_s6 => ?_)
        have hJ_s6 : yx_J s6 := by rw [e_s6]; exact (jy_raise hJ_s1)
        exact hJ_s6
    · refine xj_wl (fun s4 e_s4 => ?_)
      have hJ_s4 : yx_J s4 := by rw [e_s4]; exact (jy_raise hJ_s1)
      exact hJ_s4
  · exact hJ_s1
def fy_load (a1 : Int32) (a2 : Int32) (σ : xs_S) : Int32 × xs_S := (if (σ 18 8) = 0 then (if a1 = (1 : Int32) then xl_l ((fy_begins σ)) (fun s3 => xl_l ((fy_loadStack (a2 &&& (65535 : Int32)) s3)) (fun s4 => xl_l (fy_ends s4) (fun r5 => (r5.1, r5.2)))) else (if a1 = (2 : Int32) then xl_l ((fy_begins σ)) (fun s7 => xl_l ((fy_loadData (a2 &&& (65535 : Int32)) s7)) (fun s8 => xl_l (fy_ends s8) (fun r9 => (r9.1, r9.2)))) else ((-2 : Int32), σ))) else ((-1 : Int32), σ))
set_option maxRecDepth 100000 in
set_option maxHeartbeats 4000000 in
theorem my_load {l : Launch} {N n u : Nat} {a1 : Int32} {a2 : Int32} {σ : xs_S} (hl : l.stackTraces = false) (hn : 29 ≤ n) (hJ : yx_J σ) : xm_m (xk_k N) l ty_load [.ref 18, .int a1, .int a2] (n, u, σ, xr_0) (xe_p ei_i n u (fy_load a1 a2 σ)) := by
  refine xm_of hl ok_y_load (Nat.le_of_ble_eq_true rfl) ?_
  show xw_w (xk_k N) l ty_load 0 [some (.ref 18), some (.int a1), some (.int a2)] [] (n, u, σ, xr_0) (xe_p ei_i n u (fy_load a1 a2 σ))
  unfold fy_load
  refine xw_aload0 dy_load_0 ?_
  refine xw_getI dy_load_1 fl_y_177 (by decide) (xl_n hn (by decide)) rfl ?_
  refine xw_if_eq' dy_load_4 rfl (fun h1 => ?_) (fun h1 => ?_)
  · refine xw_iload1 dy_load_9 ?_
    refine xw_iconst dy_load_10 ki_1 ?_
    refine xw_icmp_eq' dy_load_11 rfl (fun h2 => ?_) (fun h2 => ?_)
    · refine xw_aload0 dy_load_22 ?_
      refine xw_cW dy_load_23 (lk_y_load_23 (xl_n hn (by decide)) rfl) ok_y_begins (my_begins hl hn) ⟨Nat.le_of_ble_eq_true rfl, Nat.le_of_ble_eq_true rfl⟩ ?_
      refine xw_lw (fun s3 e_s3 => ?_)
      have hJ_s3 : yx_J s3 := by rw [e_s3]; exact (jy_begins hJ)
      refine xw_iload1 dy_load_26 ?_
      refine xw_iconst dy_load_27 ki_1 ?_
      refine xw_icmp_ne_f dy_load_28 rfl h2 ?_
      refine xw_aload0 dy_load_31 ?_
      refine xw_iload2 dy_load_32 ?_
      refine xw_ldc dy_load_33 kc_y_97 ?_
      refine xw_iand dy_load_35 ?_
      refine xw_cW dy_load_36 (lk_y_load_36 (xl_n hn (by decide)) rfl) ok_y_loadStack (my_loadStack hl hn hJ_s3) ⟨Nat.le_of_ble_eq_true rfl, Nat.le_of_ble_eq_true rfl⟩ ?_
      refine xw_lw (fun s4 e_s4 => ?_)
      have hJ_s4 : yx_J s4 := by rw [e_s4]; exact (jy_loadStack hJ_s3)
      refine xw_goto dy_load_39 rfl ?_
      refine xw_aload0 dy_load_50 ?_
      refine xw_cPi dy_load_51 (lk_y_load_51 (xl_n hn (by decide)) rfl) ok_y_ends (my_ends hl hn hJ_s4) ⟨Nat.le_of_ble_eq_true rfl, Nat.le_of_ble_eq_true rfl⟩ ?_
      refine xw_lpi (fun r5 e_r5 => ?_)
      have hJ_r5 : yx_J r5.2 := by rw [e_r5]; exact (jy_ends hJ_s4)
      exact xw_iret dy_load_54 rfl
    · refine xw_iload1 dy_load_14 ?_
      refine xw_iconst dy_load_15 ki_2 ?_
      refine xw_icmp_eq' dy_load_16 rfl (fun h6 => ?_) (fun h6 => ?_)
      · refine xw_aload0 dy_load_22 ?_
        refine xw_cW dy_load_23 (lk_y_load_23 (xl_n hn (by decide)) rfl) ok_y_begins (my_begins hl hn) ⟨Nat.le_of_ble_eq_true rfl, Nat.le_of_ble_eq_true rfl⟩ ?_
        refine xw_lw (fun s7 e_s7 => ?_)
        have hJ_s7 : yx_J s7 := by rw [e_s7]; exact (jy_begins hJ)
        refine xw_iload1 dy_load_26 ?_
        refine xw_iconst dy_load_27 ki_1 ?_
        refine xw_icmp_ne_t dy_load_28 rfl h2 ?_
        refine xw_aload0 dy_load_42 ?_
        refine xw_iload2 dy_load_43 ?_
        refine xw_ldc dy_load_44 kc_y_97 ?_
        refine xw_iand dy_load_46 ?_
        refine xw_cW dy_load_47 (lk_y_load_47 (xl_n hn (by decide)) rfl) ok_y_loadData (my_loadData hl hn hJ_s7) ⟨Nat.le_of_ble_eq_true rfl, Nat.le_of_ble_eq_true rfl⟩ ?_
        refine xw_lw (fun s8 e_s8 => ?_)
        have hJ_s8 : yx_J s8 := by rw [e_s8]; exact (jy_loadData hJ_s7)
        refine xw_aload0 dy_load_50 ?_
        refine xw_cPi dy_load_51 (lk_y_load_51 (xl_n hn (by decide)) rfl) ok_y_ends (my_ends hl hn hJ_s8) ⟨Nat.le_of_ble_eq_true rfl, Nat.le_of_ble_eq_true rfl⟩ ?_
        refine xw_lpi (fun r9 e_r9 => ?_)
        have hJ_r9 : yx_J r9.2 := by rw [e_r9]; exact (jy_ends hJ_s8)
        exact xw_iret dy_load_54 rfl
      · refine xw_bipush dy_load_19 kb_m2 ?_
        exact xw_iret dy_load_21 rfl
  · refine xw_iconst dy_load_7 ki_m1 ?_
    exact xw_iret dy_load_8 rfl
theorem jy_load {a1 : Int32} {a2 : Int32} {σ : xs_S} (hJ : yx_J σ) : yx_J (fy_load a1 a2 σ).2 := by
  unfold fy_load
  refine xj_f (fun h1 => ?_) (fun h1 => ?_)
  · refine xj_f (fun h2 => ?_) (fun h2 => ?_)
    · refine xj_l (fun s3 e_s3 => ?_)
      have hJ_s3 : yx_J s3 := by rw [e_s3]; exact (jy_begins hJ)
      refine xj_l (fun s4 e_s4 => ?_)
      have hJ_s4 : yx_J s4 := by rw [e_s4]; exact (jy_loadStack hJ_s3)
      refine xj_l (fun r5 e_r5 => ?_)
      have hJ_r5 : yx_J r5.2 := by rw [e_r5]; exact (jy_ends hJ_s4)
      exact hJ_r5
    · refine xj_f (fun h6 => ?_) (fun h6 => ?_)
      · refine xj_l (fun s7 e_s7 => ?_)
        have hJ_s7 : yx_J s7 := by rw [e_s7]; exact (jy_begins hJ)
        refine xj_l (fun s8 e_s8 => ?_)
        have hJ_s8 : yx_J s8 := by rw [e_s8]; exact (jy_loadData hJ_s7)
        refine xj_l (fun r9 e_r9 => ?_)
        have hJ_r9 : yx_J r9.2 := by rw [e_r9]; exact (jy_ends hJ_s8)
        exact hJ_r9
      · exact hJ
  · exact hJ
def fy_read (a1 : Int32) (a2 : Int32) (σ : xs_S) : Int32 × xs_S := (if (σ 18 8) = 0 then (if a1 < 0 then ((-2 : Int32), σ) else (if a1 ≤ (2 : Int32) then xl_l ((fy_begins σ)) (fun s4 => xl_l (fy_segmentWord a1 (a2 &&& (65535 : Int32)) s4) (fun r5 => xl_l ((xu_u r5.2 20 25 r5.1)) (fun s6 => xl_l (fy_ends s6) (fun r7 => (r7.1, r7.2))))) else ((-2 : Int32), σ))) else ((-1 : Int32), σ))
set_option maxRecDepth 100000 in
set_option maxHeartbeats 4000000 in
theorem my_read {l : Launch} {N n u : Nat} {a1 : Int32} {a2 : Int32} {σ : xs_S} (hl : l.stackTraces = false) (hn : 29 ≤ n) (hJ : yx_J σ) : xm_m (xk_k N) l ty_read [.ref 18, .int a1, .int a2] (n, u, σ, xr_0) (xe_p ei_i n u (fy_read a1 a2 σ)) := by
  refine xm_of hl ok_y_read (Nat.le_of_ble_eq_true rfl) ?_
  show xw_w (xk_k N) l ty_read 0 [some (.ref 18), some (.int a1), some (.int a2), none] [] (n, u, σ, xr_0) (xe_p ei_i n u (fy_read a1 a2 σ))
  unfold fy_read
  refine xw_aload0 dy_read_0 ?_
  refine xw_getI dy_read_1 fl_y_177 (by decide) (xl_n hn (by decide)) rfl ?_
  refine xw_if_eq' dy_read_4 rfl (fun h1 => ?_) (fun h1 => ?_)
  · refine xw_iload1 dy_read_9 ?_
    refine xw_if_lt' dy_read_10 rfl (fun h2 => ?_) (fun h2 => ?_)
    · refine xw_bipush dy_read_18 kb_m2 ?_
      exact xw_iret dy_read_20 rfl
    · refine xw_iload1 dy_read_13 ?_
      refine xw_iconst dy_read_14 ki_2 ?_
      refine xw_icmp_le' dy_read_15 rfl (fun h3 => ?_) (fun h3 => ?_)
      · refine xw_aload0 dy_read_21 ?_
        refine xw_cW dy_read_22 (lk_y_read_22 (xl_n hn (by decide)) rfl) ok_y_begins (my_begins hl hn) ⟨Nat.le_of_ble_eq_true rfl, Nat.le_of_ble_eq_true rfl⟩ ?_
        refine xw_lw (fun s4 e_s4 => ?_)
        have hJ_s4 : yx_J s4 := by rw [e_s4]; exact (jy_begins hJ)
        refine xw_aload0 dy_read_25 ?_
        refine xw_iload1 dy_read_26 ?_
        refine xw_iload2 dy_read_27 ?_
        refine xw_ldc dy_read_28 kc_y_97 ?_
        refine xw_iand dy_read_30 ?_
        refine xw_cPi dy_read_31 (lk_y_read_31 (xl_n hn (by decide)) rfl) ok_y_segmentWord (my_segmentWord hl hn ((vs_2 h2 h3)) hJ_s4) ⟨Nat.le_of_ble_eq_true rfl, Nat.le_of_ble_eq_true rfl⟩ ?_
        refine xw_lpi (fun r5 e_r5 => ?_)
        have hJ_r5 : yx_J r5.2 := by rw [e_r5]; exact (jy_segmentWord ((vs_2 h2 h3)) hJ_s4)
        refine xw_istore3 dy_read_34 (Nat.le_of_ble_eq_true rfl) rfl ?_
        refine xw_aload0 dy_read_35 ?_
        refine xw_getR dy_read_36 fl_y_13 (xl_n hn (by decide)) rfl r_18_5 ?_
        refine xw_bipush dy_read_39 kb_25 ?_
        refine xw_iload3 dy_read_41 ?_
        refine xw_iast dy_read_42 (by decide) (xl_n hn (by decide)) rfl vc_25_26 cn_25 ?_
        refine xw_lw (fun s6 e_s6 => ?_)
        have hJ_s6 : yx_J s6 := by rw [e_s6]; exact (yx_u hJ_r5 (by decide))
        refine xw_aload0 dy_read_43 ?_
        refine xw_cPi dy_read_44 (lk_y_read_44 (xl_n hn (by decide)) rfl) ok_y_ends (my_ends hl hn hJ_s6) ⟨Nat.le_of_ble_eq_true rfl, Nat.le_of_ble_eq_true rfl⟩ ?_
        refine xw_lpi (fun r7 e_r7 => ?_)
        have hJ_r7 : yx_J r7.2 := by rw [e_r7]; exact (jy_ends hJ_s6)
        exact xw_iret dy_read_47 rfl
      · refine xw_bipush dy_read_18 kb_m2 ?_
        exact xw_iret dy_read_20 rfl
  · refine xw_iconst dy_read_7 ki_m1 ?_
    exact xw_iret dy_read_8 rfl
theorem jy_read {a1 : Int32} {a2 : Int32} {σ : xs_S} (hJ : yx_J σ) : yx_J (fy_read a1 a2 σ).2 := by
  unfold fy_read
  refine xj_f (fun h1 => ?_) (fun h1 => ?_)
  · refine xj_f (fun h2 => ?_) (fun h2 => ?_)
    · exact hJ
    · refine xj_f (fun h3 => ?_) (fun h3 => ?_)
      · refine xj_l (fun s4 e_s4 => ?_)
        have hJ_s4 : yx_J s4 := by rw [e_s4]; exact (jy_begins hJ)
        refine xj_l (fun r5 e_r5 => ?_)
        have hJ_r5 : yx_J r5.2 := by rw [e_r5]; exact (jy_segmentWord ((vs_2 h2 h3)) hJ_s4)
        refine xj_l (fun s6 e_s6 => ?_)
        have hJ_s6 : yx_J s6 := by rw [e_s6]; exact (yx_u hJ_r5 (by decide))
        refine xj_l (fun r7 e_r7 => ?_)
        have hJ_r7 : yx_J r7.2 := by rw [e_r7]; exact (jy_ends hJ_s6)
        exact hJ_r7
      · exact hJ
  · exact hJ
def fy_write (a1 : Int32) (a2 : Int32) (a3 : Int32) (σ : xs_S) : Int32 × xs_S := (if (σ 18 8) = 0 then (if a1 < 0 then ((-2 : Int32), σ) else (if a1 ≤ (2 : Int32) then xl_l ((fy_begins σ)) (fun s4 => xl_l ((fy_setSegmentWord a1 (a2 &&& (65535 : Int32)) (a3 &&& (65535 : Int32)) s4)) (fun s5 => xl_l (fy_ends s5) (fun r6 => (r6.1, r6.2)))) else ((-2 : Int32), σ))) else ((-1 : Int32), σ))
set_option maxRecDepth 100000 in
set_option maxHeartbeats 4000000 in
theorem my_write {l : Launch} {N n u : Nat} {a1 : Int32} {a2 : Int32} {a3 : Int32} {σ : xs_S} (hl : l.stackTraces = false) (hn : 29 ≤ n) (hJ : yx_J σ) : xm_m (xk_k N) l ty_write [.ref 18, .int a1, .int a2, .int a3] (n, u, σ, xr_0) (xe_p ei_i n u (fy_write a1 a2 a3 σ)) := by
  refine xm_of hl ok_y_write (Nat.le_of_ble_eq_true rfl) ?_
  show xw_w (xk_k N) l ty_write 0 [some (.ref 18), some (.int a1), some (.int a2), some (.int a3)] [] (n, u, σ, xr_0) (xe_p ei_i n u (fy_write a1 a2 a3 σ))
  unfold fy_write
  refine xw_aload0 dy_write_0 ?_
  refine xw_getI dy_write_1 fl_y_177 (by decide) (xl_n hn (by decide)) rfl ?_
  refine xw_if_eq' dy_write_4 rfl (fun h1 => ?_) (fun h1 => ?_)
  · refine xw_iload1 dy_write_9 ?_
    refine xw_if_lt' dy_write_10 rfl (fun h2 => ?_) (fun h2 => ?_)
    · refine xw_bipush dy_write_18 kb_m2 ?_
      exact xw_iret dy_write_20 rfl
    · refine xw_iload1 dy_write_13 ?_
      refine xw_iconst dy_write_14 ki_2 ?_
      refine xw_icmp_le' dy_write_15 rfl (fun h3 => ?_) (fun h3 => ?_)
      · refine xw_aload0 dy_write_21 ?_
        refine xw_cW dy_write_22 (lk_y_write_22 (xl_n hn (by decide)) rfl) ok_y_begins (my_begins hl hn) ⟨Nat.le_of_ble_eq_true rfl, Nat.le_of_ble_eq_true rfl⟩ ?_
        refine xw_lw (fun s4 e_s4 => ?_)
        have hJ_s4 : yx_J s4 := by rw [e_s4]; exact (jy_begins hJ)
        refine xw_aload0 dy_write_25 ?_
        refine xw_iload1 dy_write_26 ?_
        refine xw_iload2 dy_write_27 ?_
        refine xw_ldc dy_write_28 kc_y_97 ?_
        refine xw_iand dy_write_30 ?_
        refine xw_iload3 dy_write_31 ?_
        refine xw_ldc dy_write_32 kc_y_97 ?_
        refine xw_iand dy_write_34 ?_
        refine xw_cW dy_write_35 (lk_y_write_35 (xl_n hn (by decide)) rfl) ok_y_setSegmentWord (my_setSegmentWord hl hn ((vs_2 h2 h3)) hJ_s4) ⟨Nat.le_of_ble_eq_true rfl, Nat.le_of_ble_eq_true rfl⟩ ?_
        refine xw_lw (fun s5 e_s5 => ?_)
        have hJ_s5 : yx_J s5 := by rw [e_s5]; exact (jy_setSegmentWord ((vs_2 h2 h3)) hJ_s4)
        refine xw_aload0 dy_write_38 ?_
        refine xw_cPi dy_write_39 (lk_y_write_39 (xl_n hn (by decide)) rfl) ok_y_ends (my_ends hl hn hJ_s5) ⟨Nat.le_of_ble_eq_true rfl, Nat.le_of_ble_eq_true rfl⟩ ?_
        refine xw_lpi (fun r6 e_r6 => ?_)
        have hJ_r6 : yx_J r6.2 := by rw [e_r6]; exact (jy_ends hJ_s5)
        exact xw_iret dy_write_42 rfl
      · refine xw_bipush dy_write_18 kb_m2 ?_
        exact xw_iret dy_write_20 rfl
  · refine xw_iconst dy_write_7 ki_m1 ?_
    exact xw_iret dy_write_8 rfl
theorem jy_write {a1 : Int32} {a2 : Int32} {a3 : Int32} {σ : xs_S} (hJ : yx_J σ) : yx_J (fy_write a1 a2 a3 σ).2 := by
  unfold fy_write
  refine xj_f (fun h1 => ?_) (fun h1 => ?_)
  · refine xj_f (fun h2 => ?_) (fun h2 => ?_)
    · exact hJ
    · refine xj_f (fun h3 => ?_) (fun h3 => ?_)
      · refine xj_l (fun s4 e_s4 => ?_)
        have hJ_s4 : yx_J s4 := by rw [e_s4]; exact (jy_begins hJ)
        refine xj_l (fun s5 e_s5 => ?_)
        have hJ_s5 : yx_J s5 := by rw [e_s5]; exact (jy_setSegmentWord ((vs_2 h2 h3)) hJ_s4)
        refine xj_l (fun r6 e_r6 => ?_)
        have hJ_r6 : yx_J r6.2 := by rw [e_r6]; exact (jy_ends hJ_s5)
        exact hJ_r6
      · exact hJ
  · exact hJ
def fy_push (a1 : Int32) (σ : xs_S) : Int32 × xs_S := (if (σ 18 8) = 0 then xl_l ((fy_begins σ)) (fun s2 => xl_l ((fy_pushWord (a1 &&& (65535 : Int32)) s2)) (fun s3 => xl_l (fy_ends s3) (fun r4 => (r4.1, r4.2)))) else ((-1 : Int32), σ))
set_option maxRecDepth 100000 in
set_option maxHeartbeats 4000000 in
theorem my_push {l : Launch} {N n u : Nat} {a1 : Int32} {σ : xs_S} (hl : l.stackTraces = false) (hn : 29 ≤ n) (hJ : yx_J σ) : xm_m (xk_k N) l ty_push [.ref 18, .int a1] (n, u, σ, xr_0) (xe_p ei_i n u (fy_push a1 σ)) := by
  refine xm_of hl ok_y_push (Nat.le_of_ble_eq_true rfl) ?_
  show xw_w (xk_k N) l ty_push 0 [some (.ref 18), some (.int a1)] [] (n, u, σ, xr_0) (xe_p ei_i n u (fy_push a1 σ))
  unfold fy_push
  refine xw_aload0 dy_push_0 ?_
  refine xw_getI dy_push_1 fl_y_177 (by decide) (xl_n hn (by decide)) rfl ?_
  refine xw_if_eq' dy_push_4 rfl (fun h1 => ?_) (fun h1 => ?_)
  · refine xw_aload0 dy_push_9 ?_
    refine xw_cW dy_push_10 (lk_y_push_10 (xl_n hn (by decide)) rfl) ok_y_begins (my_begins hl hn) ⟨Nat.le_of_ble_eq_true rfl, Nat.le_of_ble_eq_true rfl⟩ ?_
    refine xw_lw (fun s2 e_s2 => ?_)
    have hJ_s2 : yx_J s2 := by rw [e_s2]; exact (jy_begins hJ)
    refine xw_aload0 dy_push_13 ?_
    refine xw_iload1 dy_push_14 ?_
    refine xw_ldc dy_push_15 kc_y_97 ?_
    refine xw_iand dy_push_17 ?_
    refine xw_cW dy_push_18 (lk_y_push_18 (xl_n hn (by decide)) rfl) ok_y_pushWord (my_pushWord hl hn hJ_s2) ⟨Nat.le_of_ble_eq_true rfl, Nat.le_of_ble_eq_true rfl⟩ ?_
    refine xw_lw (fun s3 e_s3 => ?_)
    have hJ_s3 : yx_J s3 := by rw [e_s3]; exact (jy_pushWord hJ_s2)
    refine xw_aload0 dy_push_21 ?_
    refine xw_cPi dy_push_22 (lk_y_push_22 (xl_n hn (by decide)) rfl) ok_y_ends (my_ends hl hn hJ_s3) ⟨Nat.le_of_ble_eq_true rfl, Nat.le_of_ble_eq_true rfl⟩ ?_
    refine xw_lpi (fun r4 e_r4 => ?_)
    have hJ_r4 : yx_J r4.2 := by rw [e_r4]; exact (jy_ends hJ_s3)
    exact xw_iret dy_push_25 rfl
  · refine xw_iconst dy_push_7 ki_m1 ?_
    exact xw_iret dy_push_8 rfl
theorem jy_push {a1 : Int32} {σ : xs_S} (hJ : yx_J σ) : yx_J (fy_push a1 σ).2 := by
  unfold fy_push
  refine xj_f (fun h1 => ?_) (fun h1 => ?_)
  · refine xj_l (fun s2 e_s2 => ?_)
    have hJ_s2 : yx_J s2 := by rw [e_s2]; exact (jy_begins hJ)
    refine xj_l (fun s3 e_s3 => ?_)
    have hJ_s3 : yx_J s3 := by rw [e_s3]; exact (jy_pushWord hJ_s2)
    refine xj_l (fun r4 e_r4 => ?_)
    have hJ_r4 : yx_J r4.2 := by rw [e_r4]; exact (jy_ends hJ_s3)
    exact hJ_r4
  · exact hJ
def fy_pop (σ : xs_S) : Int32 × xs_S := (if (σ 18 8) = 0 then xl_l ((fy_begins σ)) (fun s2 => xl_l (fy_popWord s2) (fun r3 => xl_l ((xu_u r3.2 20 25 r3.1)) (fun s4 => xl_l (fy_ends s4) (fun r5 => (r5.1, r5.2))))) else ((-1 : Int32), σ))
set_option maxRecDepth 100000 in
set_option maxHeartbeats 4000000 in
theorem my_pop {l : Launch} {N n u : Nat} {σ : xs_S} (hl : l.stackTraces = false) (hn : 29 ≤ n) (hJ : yx_J σ) : xm_m (xk_k N) l ty_pop [.ref 18] (n, u, σ, xr_0) (xe_p ei_i n u (fy_pop σ)) := by
  refine xm_of hl ok_y_pop (Nat.le_of_ble_eq_true rfl) ?_
  show xw_w (xk_k N) l ty_pop 0 [some (.ref 18), none] [] (n, u, σ, xr_0) (xe_p ei_i n u (fy_pop σ))
  unfold fy_pop
  refine xw_aload0 dy_pop_0 ?_
  refine xw_getI dy_pop_1 fl_y_177 (by decide) (xl_n hn (by decide)) rfl ?_
  refine xw_if_eq' dy_pop_4 rfl (fun h1 => ?_) (fun h1 => ?_)
  · refine xw_aload0 dy_pop_9 ?_
    refine xw_cW dy_pop_10 (lk_y_pop_10 (xl_n hn (by decide)) rfl) ok_y_begins (my_begins hl hn) ⟨Nat.le_of_ble_eq_true rfl, Nat.le_of_ble_eq_true rfl⟩ ?_
    refine xw_lw (fun s2 e_s2 => ?_)
    have hJ_s2 : yx_J s2 := by rw [e_s2]; exact (jy_begins hJ)
    refine xw_aload0 dy_pop_13 ?_
    refine xw_cPi dy_pop_14 (lk_y_pop_14 (xl_n hn (by decide)) rfl) ok_y_popWord (my_popWord hl hn hJ_s2) ⟨Nat.le_of_ble_eq_true rfl, Nat.le_of_ble_eq_true rfl⟩ ?_
    refine xw_lpi (fun r3 e_r3 => ?_)
    have hJ_r3 : yx_J r3.2 := by rw [e_r3]; exact (jy_popWord hJ_s2)
    refine xw_istore1 dy_pop_17 (Nat.le_of_ble_eq_true rfl) rfl ?_
    refine xw_aload0 dy_pop_18 ?_
    refine xw_getR dy_pop_19 fl_y_13 (xl_n hn (by decide)) rfl r_18_5 ?_
    refine xw_bipush dy_pop_22 kb_25 ?_
    refine xw_iload1 dy_pop_24 ?_
    refine xw_iast dy_pop_25 (by decide) (xl_n hn (by decide)) rfl vc_25_26 cn_25 ?_
    refine xw_lw (fun s4 e_s4 => ?_)
    have hJ_s4 : yx_J s4 := by rw [e_s4]; exact (yx_u hJ_r3 (by decide))
    refine xw_aload0 dy_pop_26 ?_
    refine xw_cPi dy_pop_27 (lk_y_pop_27 (xl_n hn (by decide)) rfl) ok_y_ends (my_ends hl hn hJ_s4) ⟨Nat.le_of_ble_eq_true rfl, Nat.le_of_ble_eq_true rfl⟩ ?_
    refine xw_lpi (fun r5 e_r5 => ?_)
    have hJ_r5 : yx_J r5.2 := by rw [e_r5]; exact (jy_ends hJ_s4)
    exact xw_iret dy_pop_30 rfl
  · refine xw_iconst dy_pop_7 ki_m1 ?_
    exact xw_iret dy_pop_8 rfl
theorem jy_pop {σ : xs_S} (hJ : yx_J σ) : yx_J (fy_pop σ).2 := by
  unfold fy_pop
  refine xj_f (fun h1 => ?_) (fun h1 => ?_)
  · refine xj_l (fun s2 e_s2 => ?_)
    have hJ_s2 : yx_J s2 := by rw [e_s2]; exact (jy_begins hJ)
    refine xj_l (fun r3 e_r3 => ?_)
    have hJ_r3 : yx_J r3.2 := by rw [e_r3]; exact (jy_popWord hJ_s2)
    refine xj_l (fun s4 e_s4 => ?_)
    have hJ_s4 : yx_J s4 := by rw [e_s4]; exact (yx_u hJ_r3 (by decide))
    refine xj_l (fun r5 e_r5 => ?_)
    have hJ_r5 : yx_J r5.2 := by rw [e_r5]; exact (jy_ends hJ_s4)
    exact hJ_r5
  · exact hJ
def fy_far (a1 : Int32) (a2 : Int32) (a3 : Int32) (σ : xs_S) : Int32 × xs_S := (if (σ 18 8) = 0 then xl_l ((fy_begins σ)) (fun s2 => xl_l ((fy_transfer (a1 &&& (65535 : Int32)) (a2 &&& (65535 : Int32)) a3 s2)) (fun s3 => xl_l (fy_ends s3) (fun r4 => (r4.1, r4.2)))) else ((-1 : Int32), σ))
set_option maxRecDepth 100000 in
set_option maxHeartbeats 4000000 in
theorem my_far {l : Launch} {N n u : Nat} {a1 : Int32} {a2 : Int32} {a3 : Int32} {σ : xs_S} (hl : l.stackTraces = false) (hn : 29 ≤ n) (hJ : yx_J σ) : xm_m (xk_k N) l ty_far [.ref 18, .int a1, .int a2, .int a3] (n, u, σ, xr_0) (xe_p ei_i n u (fy_far a1 a2 a3 σ)) := by
  refine xm_of hl ok_y_far (Nat.le_of_ble_eq_true rfl) ?_
  show xw_w (xk_k N) l ty_far 0 [some (.ref 18), some (.int a1), some (.int a2), some (.int a3)] [] (n, u, σ, xr_0) (xe_p ei_i n u (fy_far a1 a2 a3 σ))
  unfold fy_far
  refine xw_aload0 dy_far_0 ?_
  refine xw_getI dy_far_1 fl_y_177 (by decide) (xl_n hn (by decide)) rfl ?_
  refine xw_if_eq' dy_far_4 rfl (fun h1 => ?_) (fun h1 => ?_)
  · refine xw_aload0 dy_far_9 ?_
    refine xw_cW dy_far_10 (lk_y_far_10 (xl_n hn (by decide)) rfl) ok_y_begins (my_begins hl hn) ⟨Nat.le_of_ble_eq_true rfl, Nat.le_of_ble_eq_true rfl⟩ ?_
    refine xw_lw (fun s2 e_s2 => ?_)
    have hJ_s2 : yx_J s2 := by rw [e_s2]; exact (jy_begins hJ)
    refine xw_aload0 dy_far_13 ?_
    refine xw_iload1 dy_far_14 ?_
    refine xw_ldc dy_far_15 kc_y_97 ?_
    refine xw_iand dy_far_17 ?_
    refine xw_iload2 dy_far_18 ?_
    refine xw_ldc dy_far_19 kc_y_97 ?_
    refine xw_iand dy_far_21 ?_
    refine xw_iload3 dy_far_22 ?_
    refine xw_cW dy_far_23 (lk_y_far_23 (xl_n hn (by decide)) rfl) ok_y_transfer (my_transfer hl hn hJ_s2) ⟨Nat.le_of_ble_eq_true rfl, Nat.le_of_ble_eq_true rfl⟩ ?_
    refine xw_lw (fun s3 e_s3 => ?_)
    have hJ_s3 : yx_J s3 := by rw [e_s3]; exact (jy_transfer hJ_s2)
    refine xw_aload0 dy_far_26 ?_
    refine xw_cPi dy_far_27 (lk_y_far_27 (xl_n hn (by decide)) rfl) ok_y_ends (my_ends hl hn hJ_s3) ⟨Nat.le_of_ble_eq_true rfl, Nat.le_of_ble_eq_true rfl⟩ ?_
    refine xw_lpi (fun r4 e_r4 => ?_)
    have hJ_r4 : yx_J r4.2 := by rw [e_r4]; exact (jy_ends hJ_s3)
    exact xw_iret dy_far_30 rfl
  · refine xw_iconst dy_far_7 ki_m1 ?_
    exact xw_iret dy_far_8 rfl
theorem jy_far {a1 : Int32} {a2 : Int32} {a3 : Int32} {σ : xs_S} (hJ : yx_J σ) : yx_J (fy_far a1 a2 a3 σ).2 := by
  unfold fy_far
  refine xj_f (fun h1 => ?_) (fun h1 => ?_)
  · refine xj_l (fun s2 e_s2 => ?_)
    have hJ_s2 : yx_J s2 := by rw [e_s2]; exact (jy_begins hJ)
    refine xj_l (fun s3 e_s3 => ?_)
    have hJ_s3 : yx_J s3 := by rw [e_s3]; exact (jy_transfer hJ_s2)
    refine xj_l (fun r4 e_r4 => ?_)
    have hJ_r4 : yx_J r4.2 := by rw [e_r4]; exact (jy_ends hJ_s3)
    exact hJ_r4
  · exact hJ
def fy_back (σ : xs_S) : Int32 × xs_S := (if (σ 18 8) = 0 then xl_l ((fy_begins σ)) (fun s2 => xl_l ((fy_returns (0 : Int32) s2)) (fun s3 => xl_l (fy_ends s3) (fun r4 => (r4.1, r4.2)))) else ((-1 : Int32), σ))
set_option maxRecDepth 100000 in
set_option maxHeartbeats 4000000 in
theorem my_back {l : Launch} {N n u : Nat} {σ : xs_S} (hl : l.stackTraces = false) (hn : 29 ≤ n) (hJ : yx_J σ) : xm_m (xk_k N) l ty_back [.ref 18] (n, u, σ, xr_0) (xe_p ei_i n u (fy_back σ)) := by
  refine xm_of hl ok_y_back (Nat.le_of_ble_eq_true rfl) ?_
  show xw_w (xk_k N) l ty_back 0 [some (.ref 18)] [] (n, u, σ, xr_0) (xe_p ei_i n u (fy_back σ))
  unfold fy_back
  refine xw_aload0 dy_back_0 ?_
  refine xw_getI dy_back_1 fl_y_177 (by decide) (xl_n hn (by decide)) rfl ?_
  refine xw_if_eq' dy_back_4 rfl (fun h1 => ?_) (fun h1 => ?_)
  · refine xw_aload0 dy_back_9 ?_
    refine xw_cW dy_back_10 (lk_y_back_10 (xl_n hn (by decide)) rfl) ok_y_begins (my_begins hl hn) ⟨Nat.le_of_ble_eq_true rfl, Nat.le_of_ble_eq_true rfl⟩ ?_
    refine xw_lw (fun s2 e_s2 => ?_)
    have hJ_s2 : yx_J s2 := by rw [e_s2]; exact (jy_begins hJ)
    refine xw_aload0 dy_back_13 ?_
    refine xw_iconst dy_back_14 ki_0 ?_
    refine xw_cW dy_back_15 (lk_y_back_15 (xl_n hn (by decide)) rfl) ok_y_returns (my_returns hl hn hJ_s2) ⟨Nat.le_of_ble_eq_true rfl, Nat.le_of_ble_eq_true rfl⟩ ?_
    refine xw_lw (fun s3 e_s3 => ?_)
    have hJ_s3 : yx_J s3 := by rw [e_s3]; exact (jy_returns hJ_s2)
    refine xw_aload0 dy_back_18 ?_
    refine xw_cPi dy_back_19 (lk_y_back_19 (xl_n hn (by decide)) rfl) ok_y_ends (my_ends hl hn hJ_s3) ⟨Nat.le_of_ble_eq_true rfl, Nat.le_of_ble_eq_true rfl⟩ ?_
    refine xw_lpi (fun r4 e_r4 => ?_)
    have hJ_r4 : yx_J r4.2 := by rw [e_r4]; exact (jy_ends hJ_s3)
    exact xw_iret dy_back_22 rfl
  · refine xw_iconst dy_back_7 ki_m1 ?_
    exact xw_iret dy_back_8 rfl
theorem jy_back {σ : xs_S} (hJ : yx_J σ) : yx_J (fy_back σ).2 := by
  unfold fy_back
  refine xj_f (fun h1 => ?_) (fun h1 => ?_)
  · refine xj_l (fun s2 e_s2 => ?_)
    have hJ_s2 : yx_J s2 := by rw [e_s2]; exact (jy_begins hJ)
    refine xj_l (fun s3 e_s3 => ?_)
    have hJ_s3 : yx_J s3 := by rw [e_s3]; exact (jy_returns hJ_s2)
    refine xj_l (fun r4 e_r4 => ?_)
    have hJ_r4 : yx_J r4.2 := by rw [e_r4]; exact (jy_ends hJ_s3)
    exact hJ_r4
  · exact hJ
def fy_trap (a1 : Int32) (σ : xs_S) : Int32 × xs_S := (if (σ 18 8) = 0 then xl_l ((fy_begins σ)) (fun s2 => xl_l ((fy_deliver (a1 &&& (255 : Int32)) (1 : Int32) (0 : Int32) s2)) (fun s3 => xl_l (fy_ends s3) (fun r4 => (r4.1, r4.2)))) else ((-1 : Int32), σ))
set_option maxRecDepth 100000 in
set_option maxHeartbeats 4000000 in
theorem my_trap {l : Launch} {N n u : Nat} {a1 : Int32} {σ : xs_S} (hl : l.stackTraces = false) (hn : 29 ≤ n) (hJ : yx_J σ) : xm_m (xk_k N) l ty_trap [.ref 18, .int a1] (n, u, σ, xr_0) (xe_p ei_i n u (fy_trap a1 σ)) := by
  refine xm_of hl ok_y_trap (Nat.le_of_ble_eq_true rfl) ?_
  show xw_w (xk_k N) l ty_trap 0 [some (.ref 18), some (.int a1)] [] (n, u, σ, xr_0) (xe_p ei_i n u (fy_trap a1 σ))
  unfold fy_trap
  refine xw_aload0 dy_trap_0 ?_
  refine xw_getI dy_trap_1 fl_y_177 (by decide) (xl_n hn (by decide)) rfl ?_
  refine xw_if_eq' dy_trap_4 rfl (fun h1 => ?_) (fun h1 => ?_)
  · refine xw_aload0 dy_trap_9 ?_
    refine xw_cW dy_trap_10 (lk_y_trap_10 (xl_n hn (by decide)) rfl) ok_y_begins (my_begins hl hn) ⟨Nat.le_of_ble_eq_true rfl, Nat.le_of_ble_eq_true rfl⟩ ?_
    refine xw_lw (fun s2 e_s2 => ?_)
    have hJ_s2 : yx_J s2 := by rw [e_s2]; exact (jy_begins hJ)
    refine xw_aload0 dy_trap_13 ?_
    refine xw_iload1 dy_trap_14 ?_
    refine xw_sipush dy_trap_15 ks_255 ?_
    refine xw_iand dy_trap_18 ?_
    refine xw_iconst dy_trap_19 ki_1 ?_
    refine xw_iconst dy_trap_20 ki_0 ?_
    refine xw_cW dy_trap_21 (lk_y_trap_21 (xl_n hn (by decide)) rfl) ok_y_deliver (my_deliver hl hn hJ_s2) ⟨Nat.le_of_ble_eq_true rfl, Nat.le_of_ble_eq_true rfl⟩ ?_
    refine xw_lw (fun s3 e_s3 => ?_)
    have hJ_s3 : yx_J s3 := by rw [e_s3]; exact (jy_deliver hJ_s2)
    refine xw_aload0 dy_trap_24 ?_
    refine xw_cPi dy_trap_25 (lk_y_trap_25 (xl_n hn (by decide)) rfl) ok_y_ends (my_ends hl hn hJ_s3) ⟨Nat.le_of_ble_eq_true rfl, Nat.le_of_ble_eq_true rfl⟩ ?_
    refine xw_lpi (fun r4 e_r4 => ?_)
    have hJ_r4 : yx_J r4.2 := by rw [e_r4]; exact (jy_ends hJ_s3)
    exact xw_iret dy_trap_28 rfl
  · refine xw_iconst dy_trap_7 ki_m1 ?_
    exact xw_iret dy_trap_8 rfl
theorem jy_trap {a1 : Int32} {σ : xs_S} (hJ : yx_J σ) : yx_J (fy_trap a1 σ).2 := by
  unfold fy_trap
  refine xj_f (fun h1 => ?_) (fun h1 => ?_)
  · refine xj_l (fun s2 e_s2 => ?_)
    have hJ_s2 : yx_J s2 := by rw [e_s2]; exact (jy_begins hJ)
    refine xj_l (fun s3 e_s3 => ?_)
    have hJ_s3 : yx_J s3 := by rw [e_s3]; exact (jy_deliver hJ_s2)
    refine xj_l (fun r4 e_r4 => ?_)
    have hJ_r4 : yx_J r4.2 := by rw [e_r4]; exact (jy_ends hJ_s3)
    exact hJ_r4
  · exact hJ
def fy_leaveTask (σ : xs_S) : xs_S := xl_l (fy_readWord (σ 20 23) (1 : Int32) σ) (fun r1 => (if (fy_isRaised r1.2) = 0 then xl_l ((if (fy_isNull r1.1 r1.2) = 0 then (fy_lookUp r1.1 (0 : Int32) r1.2) else (fy_raise (13 : Int32) (0 : Int32) r1.2))) (fun s3 => (if (fy_isRaised s3) = 0 then (if (s3 24 0) = (5 : Int32) then xl_l ((fy_switchTo r1.1 (2 : Int32) s3)) (fun s6 => s6) else (if (s3 24 0) = (6 : Int32) then xl_l ((fy_switchTo r1.1 (2 : Int32) s3)) (fun s8 => s8) else xl_l ((fy_raise (13 : Int32) (0 : Int32) s3)) (fun s9 => s9))) else s3)) else r1.2))
set_option maxRecDepth 100000 in
set_option maxHeartbeats 4000000 in
theorem my_leaveTask {l : Launch} {N n u : Nat} {σ : xs_S} (hl : l.stackTraces = false) (hn : 29 ≤ n) (hJ : yx_J σ) : xm_m (xk_k N) l ty_leaveTask [.ref 18] (n, u, σ, xr_0) (xe_w n u (fy_leaveTask σ)) := by
  refine xm_of hl ok_y_leaveTask (Nat.le_of_ble_eq_true rfl) ?_
  show xw_w (xk_k N) l ty_leaveTask 0 [some (.ref 18), none] [] (n, u, σ, xr_0) (xe_w n u (fy_leaveTask σ))
  unfold fy_leaveTask
  refine xw_aload0 dy_leaveTask_0 ?_
  refine xw_aload0 dy_leaveTask_1 ?_
  refine xw_getR dy_leaveTask_2 fl_y_13 (xl_n hn (by decide)) rfl r_18_5 ?_
  refine xw_bipush dy_leaveTask_5 kb_23 ?_
  refine xw_iald dy_leaveTask_7 (xl_n hn (by decide)) rfl vc_23_26 cn_23 ?_
  refine xw_iconst dy_leaveTask_8 ki_1 ?_
  refine xw_cPi dy_leaveTask_9 (lk_y_leaveTask_9 (xl_n hn (by decide)) rfl) ok_y_readWord (my_readWord hl hn hJ) ⟨Nat.le_of_ble_eq_true rfl, Nat.le_of_ble_eq_true rfl⟩ ?_
  refine xw_lpi (fun r1 e_r1 => ?_)
  have hJ_r1 : yx_J r1.2 := by rw [e_r1]; exact (jy_readWord hJ)
  refine xw_istore1 dy_leaveTask_12 (Nat.le_of_ble_eq_true rfl) rfl ?_
  refine xw_aload0 dy_leaveTask_13 ?_
  refine xw_cVi dy_leaveTask_14 (lk_y_leaveTask_14 (xl_n hn (by decide)) rfl) ok_y_isRaised (my_isRaised hl hn) ⟨Nat.le_of_ble_eq_true rfl, Nat.le_of_ble_eq_true rfl⟩ ?_
  refine xw_if_eq' dy_leaveTask_17 rfl (fun h2 => ?_) (fun h2 => ?_)
  · refine xw_iload1 dy_leaveTask_21 ?_
    refine xw_cVi dy_leaveTask_22 (lk_y_leaveTask_22) ok_y_isNull (my_isNull hl hn) ⟨Nat.le_of_ble_eq_true rfl, Nat.le_of_ble_eq_true rfl⟩ ?_
    refine xw_if_eq_mw (J := 44) (a := (fy_lookUp r1.1 (0 : Int32) r1.2)) (b := (fy_raise (13 : Int32) (0 : Int32) r1.2)) dy_leaveTask_25 rfl (fun _ E' k' => ?_) (fun _ E' k' => ?_) ?_
    · refine xw_aload0 dy_leaveTask_38 ?_
      refine xw_iload1 dy_leaveTask_39 ?_
      refine xw_iconst dy_leaveTask_40 ki_0 ?_
      refine xw_cW dy_leaveTask_41 (lk_y_leaveTask_41 (xl_n hn (by decide)) rfl) ok_y_lookUp (my_lookUp hl hn vc_0_2 hJ_r1) ⟨Nat.le_of_ble_eq_true rfl, Nat.le_of_ble_eq_true rfl⟩ ?_
      exact k'
    · refine xw_aload0 dy_leaveTask_28 ?_
      refine xw_bipush dy_leaveTask_29 kb_13 ?_
      refine xw_iconst dy_leaveTask_31 ki_0 ?_
      refine xw_cW dy_leaveTask_32 (lk_y_leaveTask_32 (xl_n hn (by decide)) rfl) ok_y_raise (my_raise hl hn) ⟨Nat.le_of_ble_eq_true rfl, Nat.le_of_ble_eq_true rfl⟩ ?_
      refine xw_goto dy_leaveTask_35 rfl ?_
      exact k'
    refine xw_lw (fun s3 e_s3 => ?_)
    have hJ_s3 : yx_J s3 := by rw [e_s3]; exact (xj_i (fun _ => (jy_lookUp vc_0_2 hJ_r1)) (fun _ => (jy_raise hJ_r1)))
    refine xw_aload0 dy_leaveTask_44 ?_
    refine xw_cVi dy_leaveTask_45 (lk_y_leaveTask_45 (xl_n hn (by decide)) rfl) ok_y_isRaised (my_isRaised hl hn) ⟨Nat.le_of_ble_eq_true rfl, Nat.le_of_ble_eq_true rfl⟩ ?_
    refine xw_if_eq' dy_leaveTask_48 rfl (fun h4 => ?_) (fun h4 => ?_)
    · refine xw_aload0 dy_leaveTask_52 ?_
      refine xw_getR dy_leaveTask_53 fl_y_29 (xl_n hn (by decide)) rfl r_18_14 ?_
      refine xw_iconst dy_leaveTask_56 ki_0 ?_
      refine xw_iald dy_leaveTask_57 (xl_n hn (by decide)) rfl vc_0_2 cn_0 ?_
      refine xw_iconst dy_leaveTask_58 ki_5 ?_
      refine xw_icmp_eq' dy_leaveTask_59 rfl (fun h5 => ?_) (fun h5 => ?_)
      · refine xw_aload0 dy_leaveTask_83 ?_
        refine xw_iload1 dy_leaveTask_84 ?_
        refine xw_iconst dy_leaveTask_85 ki_2 ?_
        refine xw_cW dy_leaveTask_86 (lk_y_leaveTask_86 (xl_n hn (by decide)) rfl) ok_y_switchTo (my_switchTo hl hn hJ_s3) ⟨Nat.le_of_ble_eq_true rfl, Nat.le_of_ble_eq_true rfl⟩ ?_
        refine xw_lw (fun s6 e_s6 => ?_)
        have hJ_s6 : yx_J s6 := by rw [e_s6]; exact (jy_switchTo hJ_s3)
        exact xw_vret dy_leaveTask_89 rfl
      · refine xw_aload0 dy_leaveTask_62 ?_
        refine xw_getR dy_leaveTask_63 fl_y_29 (xl_n hn (by decide)) rfl r_18_14 ?_
        refine xw_iconst dy_leaveTask_66 ki_0 ?_
        refine xw_iald dy_leaveTask_67 (xl_n hn (by decide)) rfl vc_0_2 cn_0 ?_
        refine xw_bipush dy_leaveTask_68 kb_6 ?_
        refine xw_icmp_eq' dy_leaveTask_70 rfl (fun h7 => ?_) (fun h7 => ?_)
        · refine xw_aload0 dy_leaveTask_83 ?_
          refine xw_iload1 dy_leaveTask_84 ?_
          refine xw_iconst dy_leaveTask_85 ki_2 ?_
          refine xw_cW dy_leaveTask_86 (lk_y_leaveTask_86 (xl_n hn (by decide)) rfl) ok_y_switchTo (my_switchTo hl hn hJ_s3) ⟨Nat.le_of_ble_eq_true rfl, Nat.le_of_ble_eq_true rfl⟩ ?_
          refine xw_lw (fun s8 e_s8 => ?_)
          have hJ_s8 : yx_J s8 := by rw [e_s8]; exact (jy_switchTo hJ_s3)
          exact xw_vret dy_leaveTask_89 rfl
        · refine xw_aload0 dy_leaveTask_73 ?_
          refine xw_bipush dy_leaveTask_74 kb_13 ?_
          refine xw_iconst dy_leaveTask_76 ki_0 ?_
          refine xw_cW dy_leaveTask_77 (lk_y_leaveTask_77 (xl_n hn (by decide)) rfl) ok_y_raise (my_raise hl hn) ⟨Nat.le_of_ble_eq_true rfl, Nat.le_of_ble_eq_true rfl⟩ ?_
          refine xw_lw (fun s9 e_s9 => ?_)
          have hJ_s9 : yx_J s9 := by rw [e_s9]; exact (jy_raise hJ_s3)
          refine xw_goto dy_leaveTask_80 rfl ?_
          exact xw_vret dy_leaveTask_89 rfl
    · exact xw_vret dy_leaveTask_51 rfl
  · exact xw_vret dy_leaveTask_20 rfl
theorem jy_leaveTask {σ : xs_S} (hJ : yx_J σ) : yx_J (fy_leaveTask σ) := by
  unfold fy_leaveTask
  refine xj_wl (fun r1 e_r1 => ?_)
  have hJ_r1 : yx_J r1.2 := by rw [e_r1]; exact (jy_readWord hJ)
  refine xj_wf (fun h2 => ?_) (fun h2 => ?_)
  · refine xj_wl (fun s3 e_s3 => ?_)
    have hJ_s3 : yx_J s3 := by rw [e_s3]; exact (xj_i (fun _ => (jy_lookUp vc_0_2 hJ_r1)) (fun _ => (jy_raise hJ_r1)))
    refine xj_wf (fun h4 => ?_) (fun h4 => ?_)
    · refine xj_wf (fun h5 => ?_) (fun h5 => ?_)
      · refine xj_wl (fun s6 e_s6 => ?_)
        have hJ_s6 : yx_J s6 := by rw [e_s6]; exact (jy_switchTo hJ_s3)
        exact hJ_s6
      · refine xj_wf (fun h7 => ?_) (fun h7 => ?_)
        · refine xj_wl (fun s8 e_s8 => ?_)
          have hJ_s8 : yx_J s8 := by rw [e_s8]; exact (jy_switchTo hJ_s3)
          exact hJ_s8
        · refine xj_wl (fun s9 e_s9 => ?_)
          have hJ_s9 : yx_J s9 := by rw [e_s9]; exact (jy_raise hJ_s3)
          exact hJ_s9
    · exact hJ_s3
  · exact hJ_r1
