def fy_through (a1 : Int32) (a2 : Int32) (a3 : Int32) (a4 : Int32) (a5 : Int32) (a6 : Int32) (σ : xs_S) : xs_S := xl_l ((if (fy_isNull a1 σ) = 0 then (fy_lookUp a1 (0 : Int32) σ) else (fy_raise (13 : Int32) (0 : Int32) σ))) (fun s1 => (if (fy_isRaised s1) = 0 then xl_l ((if (s1 24 0) = (1 : Int32) then (if (s1 20 21) < (s1 25 0) then (0 : Int32) else (1 : Int32)) else (if (s1 24 0) = (2 : Int32) then (if (s1 20 21) < (s1 25 0) then (0 : Int32) else (1 : Int32)) else (0 : Int32)))) (fun v3 => xl_l ((if a4 = 0 then (if v3 = 0 then (fy_raise (13 : Int32) (fy_codeOf a1 s1) s1) else (if (s1 26 0) = 0 then (fy_raise (11 : Int32) (fy_codeOf a1 s1) s1) else s1)) else (if (fy_isDirect s1) = 0 then (fy_raise (13 : Int32) (fy_codeOf a1 s1) s1) else (if (s1 26 0) = 0 then (fy_raise (11 : Int32) (fy_codeOf a1 s1) s1) else s1)))) (fun s4 => (if (fy_isRaised s4) = 0 then xl_l ((s4 20 0)) (fun v6 => xl_l ((if a4 = 0 then (if (s4 24 0) = (1 : Int32) then (if (s4 20 21) ≤ (s4 25 0) then (if a5 = 0 then (fy_pushWord a6 (fy_pushWord v6 s4)) else (fy_pushWord a6 (fy_pushWord v6 (fy_pushWord (s4 20 20) s4)))) else (if a5 = 0 then (fy_pushWord a6 (fy_pushWord v6 (fy_inner (s4 25 0) a3 s4))) else (fy_pushWord a6 (fy_pushWord v6 (fy_pushWord ((fy_inner (s4 25 0) a3 s4) 20 20) (fy_inner (s4 25 0) a3 s4)))))) else (if a5 = 0 then (fy_pushWord a6 (fy_pushWord v6 s4)) else (fy_pushWord a6 (fy_pushWord v6 (fy_pushWord (s4 20 20) s4))))) else s4)) (fun s7 => xl_l ((fy_enter a1 a2 s7)) (fun s8 => s8))) else s4))) else s1))
set_option maxRecDepth 100000 in
set_option maxHeartbeats 4000000 in
theorem my_through {l : Launch} {N n u : Nat} {a1 : Int32} {a2 : Int32} {a3 : Int32} {a4 : Int32} {a5 : Int32} {a6 : Int32} {σ : xs_S} (hl : l.stackTraces = false) (hn : 29 ≤ n) (hp1 : jr_R a3 7) (hJ : yx_J σ) : xm_m (xk_k N) l ty_through [.ref 18, .int a1, .int a2, .int a3, .int a4, .int a5, .int a6] (n, u, σ, xr_0) (xe_w n u (fy_through a1 a2 a3 a4 a5 a6 σ)) := by
  refine xm_of hl ok_y_through (Nat.le_of_ble_eq_true rfl) ?_
  show xw_w (xk_k N) l ty_through 0 [some (.ref 18), some (.int a1), some (.int a2), some (.int a3), some (.int a4), some (.int a5), some (.int a6), none, none] [] (n, u, σ, xr_0) (xe_w n u (fy_through a1 a2 a3 a4 a5 a6 σ))
  unfold fy_through
  refine xw_iload1 dy_through_0 ?_
  refine xw_cVi dy_through_1 (lk_y_through_1) ok_y_isNull (my_isNull hl hn) ⟨Nat.le_of_ble_eq_true rfl, Nat.le_of_ble_eq_true rfl⟩ ?_
  refine xw_if_eq_mw (J := 23) (a := (fy_lookUp a1 (0 : Int32) σ)) (b := (fy_raise (13 : Int32) (0 : Int32) σ)) dy_through_4 rfl (fun _ E' k' => ?_) (fun _ E' k' => ?_) ?_
  · refine xw_aload0 dy_through_17 ?_
    refine xw_iload1 dy_through_18 ?_
    refine xw_iconst dy_through_19 ki_0 ?_
    refine xw_cW dy_through_20 (lk_y_through_20 (xl_n hn (by decide)) rfl) ok_y_lookUp (my_lookUp hl hn vc_0_2 hJ) ⟨Nat.le_of_ble_eq_true rfl, Nat.le_of_ble_eq_true rfl⟩ ?_
    exact k'
  · refine xw_aload0 dy_through_7 ?_
    refine xw_bipush dy_through_8 kb_13 ?_
    refine xw_iconst dy_through_10 ki_0 ?_
    refine xw_cW dy_through_11 (lk_y_through_11 (xl_n hn (by decide)) rfl) ok_y_raise (my_raise hl hn) ⟨Nat.le_of_ble_eq_true rfl, Nat.le_of_ble_eq_true rfl⟩ ?_
    refine xw_goto dy_through_14 rfl ?_
    exact k'
  refine xw_lw (fun s1 e_s1 => ?_)
  have hJ_s1 : yx_J s1 := by rw [e_s1]; exact (xj_i (fun _ => (jy_lookUp vc_0_2 hJ)) (fun _ => (jy_raise hJ)))
  refine xw_aload0 dy_through_23 ?_
  refine xw_cVi dy_through_24 (lk_y_through_24 (xl_n hn (by decide)) rfl) ok_y_isRaised (my_isRaised hl hn) ⟨Nat.le_of_ble_eq_true rfl, Nat.le_of_ble_eq_true rfl⟩ ?_
  refine xw_if_eq' dy_through_27 rfl (fun h2 => ?_) (fun h2 => ?_)
  · refine xw_aload0 dy_through_31 ?_
    refine xw_getR dy_through_32 fl_y_29 (xl_n hn (by decide)) rfl r_18_14 ?_
    refine xw_iconst dy_through_35 ki_0 ?_
    refine xw_iald dy_through_36 (xl_n hn (by decide)) rfl vc_0_2 cn_0 ?_
    refine xw_iconst dy_through_37 ki_1 ?_
    refine xw_icmp_eq_mi (J := 72) (a := (if (s1 20 21) < (s1 25 0) then (0 : Int32) else (1 : Int32))) (b := (if (s1 24 0) = (2 : Int32) then (if (s1 20 21) < (s1 25 0) then (0 : Int32) else (1 : Int32)) else (0 : Int32))) dy_through_38 rfl (fun _ E' k' => ?_) (fun _ E' k' => ?_) ?_
    · refine xw_aload0 dy_through_51 ?_
      refine xw_getR dy_through_52 fl_y_32 (xl_n hn (by decide)) rfl r_18_15 ?_
      refine xw_iconst dy_through_55 ki_0 ?_
      refine xw_iald dy_through_56 (xl_n hn (by decide)) rfl vc_0_2 cn_0 ?_
      refine xw_aload0 dy_through_57 ?_
      refine xw_getR dy_through_58 fl_y_13 (xl_n hn (by decide)) rfl r_18_5 ?_
      refine xw_bipush dy_through_61 kb_21 ?_
      refine xw_iald dy_through_63 (xl_n hn (by decide)) rfl vc_21_26 cn_21 ?_
      refine xw_icmp_gt_mi (J := 72) (a := (0 : Int32)) (b := (1 : Int32)) dy_through_64 rfl (fun _ E' k' => ?_) (fun _ E' k' => ?_) ?_
      · refine xw_iconst dy_through_71 ki_0 ?_
        exact k'
      · refine xw_iconst dy_through_67 ki_1 ?_
        refine xw_goto dy_through_68 rfl ?_
        exact k'
      exact k'
    · refine xw_aload0 dy_through_41 ?_
      refine xw_getR dy_through_42 fl_y_29 (xl_n hn (by decide)) rfl r_18_14 ?_
      refine xw_iconst dy_through_45 ki_0 ?_
      refine xw_iald dy_through_46 (xl_n hn (by decide)) rfl vc_0_2 cn_0 ?_
      refine xw_iconst dy_through_47 ki_2 ?_
      refine xw_icmp_ne_mi (J := 72) (a := (if (s1 20 21) < (s1 25 0) then (0 : Int32) else (1 : Int32))) (b := (0 : Int32)) dy_through_48 rfl (fun _ E' k' => ?_) (fun _ E' k' => ?_) ?_
      · refine xw_iconst dy_through_71 ki_0 ?_
        exact k'
      · refine xw_aload0 dy_through_51 ?_
        refine xw_getR dy_through_52 fl_y_32 (xl_n hn (by decide)) rfl r_18_15 ?_
        refine xw_iconst dy_through_55 ki_0 ?_
        refine xw_iald dy_through_56 (xl_n hn (by decide)) rfl vc_0_2 cn_0 ?_
        refine xw_aload0 dy_through_57 ?_
        refine xw_getR dy_through_58 fl_y_13 (xl_n hn (by decide)) rfl r_18_5 ?_
        refine xw_bipush dy_through_61 kb_21 ?_
        refine xw_iald dy_through_63 (xl_n hn (by decide)) rfl vc_21_26 cn_21 ?_
        refine xw_icmp_gt_mi (J := 72) (a := (0 : Int32)) (b := (1 : Int32)) dy_through_64 rfl (fun _ E' k' => ?_) (fun _ E' k' => ?_) ?_
        · refine xw_iconst dy_through_71 ki_0 ?_
          exact k'
        · refine xw_iconst dy_through_67 ki_1 ?_
          refine xw_goto dy_through_68 rfl ?_
          exact k'
        exact k'
      exact k'
    refine xw_li (fun v3 e_v3 => ?_)
    refine xw_istore7 dy_through_72 (Nat.le_of_ble_eq_true rfl) rfl ?_
    refine xw_iload4 dy_through_74 ?_
    refine xw_if_eq_mw (J := 126) (a := (if v3 = 0 then (fy_raise (13 : Int32) (fy_codeOf a1 s1) s1) else (if (s1 26 0) = 0 then (fy_raise (11 : Int32) (fy_codeOf a1 s1) s1) else s1))) (b := (if (fy_isDirect s1) = 0 then (fy_raise (13 : Int32) (fy_codeOf a1 s1) s1) else (if (s1 26 0) = 0 then (fy_raise (11 : Int32) (fy_codeOf a1 s1) s1) else s1))) dy_through_76 rfl (fun _ E' k' => ?_) (fun _ E' k' => ?_) ?_
    · refine xw_iload7 dy_through_89 ?_
      refine xw_if_ne_mw (J := 126) (a := (fy_raise (13 : Int32) (fy_codeOf a1 s1) s1)) (b := (if (s1 26 0) = 0 then (fy_raise (11 : Int32) (fy_codeOf a1 s1) s1) else s1)) dy_through_91 rfl (fun _ E' k' => ?_) (fun _ E' k' => ?_) ?_
      · refine xw_aload0 dy_through_107 ?_
        refine xw_getR dy_through_108 fl_y_35 (xl_n hn (by decide)) rfl r_18_16 ?_
        refine xw_iconst dy_through_111 ki_0 ?_
        refine xw_zald dy_through_112 (xl_n hn (by decide)) rfl vc_0_2 cn_0 ?_
        refine xw_if_ne_mw (J := 126) (a := (fy_raise (11 : Int32) (fy_codeOf a1 s1) s1)) (b := s1) dy_through_113 rfl (fun _ E' k' => ?_) (fun _ E' k' => ?_) ?_
        · exact k'
        · refine xw_aload0 dy_through_116 ?_
          refine xw_bipush dy_through_117 kb_11 ?_
          refine xw_iload1 dy_through_119 ?_
          refine xw_cVi dy_through_120 (lk_y_through_120) ok_y_codeOf (my_codeOf hl hn) ⟨Nat.le_of_ble_eq_true rfl, Nat.le_of_ble_eq_true rfl⟩ ?_
          refine xw_cW dy_through_123 (lk_y_through_123 (xl_n hn (by decide)) rfl) ok_y_raise (my_raise hl hn) ⟨Nat.le_of_ble_eq_true rfl, Nat.le_of_ble_eq_true rfl⟩ ?_
          exact k'
        exact k'
      · refine xw_aload0 dy_through_94 ?_
        refine xw_bipush dy_through_95 kb_13 ?_
        refine xw_iload1 dy_through_97 ?_
        refine xw_cVi dy_through_98 (lk_y_through_98) ok_y_codeOf (my_codeOf hl hn) ⟨Nat.le_of_ble_eq_true rfl, Nat.le_of_ble_eq_true rfl⟩ ?_
        refine xw_cW dy_through_101 (lk_y_through_101 (xl_n hn (by decide)) rfl) ok_y_raise (my_raise hl hn) ⟨Nat.le_of_ble_eq_true rfl, Nat.le_of_ble_eq_true rfl⟩ ?_
        refine xw_goto dy_through_104 rfl ?_
        exact k'
      exact k'
    · refine xw_aload0 dy_through_79 ?_
      refine xw_cVi dy_through_80 (lk_y_through_80 (xl_n hn (by decide)) rfl) ok_y_isDirect (my_isDirect hl hn) ⟨Nat.le_of_ble_eq_true rfl, Nat.le_of_ble_eq_true rfl⟩ ?_
      refine xw_if_ne_mw (J := 126) (a := (fy_raise (13 : Int32) (fy_codeOf a1 s1) s1)) (b := (if (s1 26 0) = 0 then (fy_raise (11 : Int32) (fy_codeOf a1 s1) s1) else s1)) dy_through_83 rfl (fun _ E' k' => ?_) (fun _ E' k' => ?_) ?_
      · refine xw_aload0 dy_through_107 ?_
        refine xw_getR dy_through_108 fl_y_35 (xl_n hn (by decide)) rfl r_18_16 ?_
        refine xw_iconst dy_through_111 ki_0 ?_
        refine xw_zald dy_through_112 (xl_n hn (by decide)) rfl vc_0_2 cn_0 ?_
        refine xw_if_ne_mw (J := 126) (a := (fy_raise (11 : Int32) (fy_codeOf a1 s1) s1)) (b := s1) dy_through_113 rfl (fun _ E' k' => ?_) (fun _ E' k' => ?_) ?_
        · exact k'
        · refine xw_aload0 dy_through_116 ?_
          refine xw_bipush dy_through_117 kb_11 ?_
          refine xw_iload1 dy_through_119 ?_
          refine xw_cVi dy_through_120 (lk_y_through_120) ok_y_codeOf (my_codeOf hl hn) ⟨Nat.le_of_ble_eq_true rfl, Nat.le_of_ble_eq_true rfl⟩ ?_
          refine xw_cW dy_through_123 (lk_y_through_123 (xl_n hn (by decide)) rfl) ok_y_raise (my_raise hl hn) ⟨Nat.le_of_ble_eq_true rfl, Nat.le_of_ble_eq_true rfl⟩ ?_
          exact k'
        exact k'
      · refine xw_goto dy_through_86 rfl ?_
        refine xw_aload0 dy_through_94 ?_
        refine xw_bipush dy_through_95 kb_13 ?_
        refine xw_iload1 dy_through_97 ?_
        refine xw_cVi dy_through_98 (lk_y_through_98) ok_y_codeOf (my_codeOf hl hn) ⟨Nat.le_of_ble_eq_true rfl, Nat.le_of_ble_eq_true rfl⟩ ?_
        refine xw_cW dy_through_101 (lk_y_through_101 (xl_n hn (by decide)) rfl) ok_y_raise (my_raise hl hn) ⟨Nat.le_of_ble_eq_true rfl, Nat.le_of_ble_eq_true rfl⟩ ?_
        refine xw_goto dy_through_104 rfl ?_
        exact k'
      exact k'
    refine xw_lw (fun s4 e_s4 => ?_)
    have hJ_s4 : yx_J s4 := by rw [e_s4]; exact (xj_i (fun _ => (xj_i (fun _ => (jy_raise hJ_s1)) (fun _ => (xj_i (fun _ => (jy_raise hJ_s1)) (fun _ => hJ_s1))))) (fun _ => (xj_i (fun _ => (jy_raise hJ_s1)) (fun _ => (xj_i (fun _ => (jy_raise hJ_s1)) (fun _ => hJ_s1))))))
    refine xw_aload0 dy_through_126 ?_
    refine xw_cVi dy_through_127 (lk_y_through_127 (xl_n hn (by decide)) rfl) ok_y_isRaised (my_isRaised hl hn) ⟨Nat.le_of_ble_eq_true rfl, Nat.le_of_ble_eq_true rfl⟩ ?_
    refine xw_if_eq' dy_through_130 rfl (fun h5 => ?_) (fun h5 => ?_)
    · refine xw_aload0 dy_through_134 ?_
      refine xw_getR dy_through_135 fl_y_13 (xl_n hn (by decide)) rfl r_18_5 ?_
      refine xw_iconst dy_through_138 ki_0 ?_
      refine xw_iald dy_through_139 (xl_n hn (by decide)) rfl vc_0_26 cn_0 ?_
      refine xw_li (fun v6 e_v6 => ?_)
      refine xw_istore8 dy_through_140 (Nat.le_of_ble_eq_true rfl) rfl ?_
      refine xw_iload4 dy_through_142 ?_
      refine xw_if_ne_mw (J := 212) (a := (if (s4 24 0) = (1 : Int32) then (if (s4 20 21) ≤ (s4 25 0) then (if a5 = 0 then (fy_pushWord a6 (fy_pushWord v6 s4)) else (fy_pushWord a6 (fy_pushWord v6 (fy_pushWord (s4 20 20) s4)))) else (if a5 = 0 then (fy_pushWord a6 (fy_pushWord v6 (fy_inner (s4 25 0) a3 s4))) else (fy_pushWord a6 (fy_pushWord v6 (fy_pushWord ((fy_inner (s4 25 0) a3 s4) 20 20) (fy_inner (s4 25 0) a3 s4)))))) else (if a5 = 0 then (fy_pushWord a6 (fy_pushWord v6 s4)) else (fy_pushWord a6 (fy_pushWord v6 (fy_pushWord (s4 20 20) s4)))))) (b := s4) dy_through_144 rfl (fun _ E' k' => ?_) (fun _ E' k' => ?_) ?_
      · exact k'
      · refine xw_aload0 dy_through_147 ?_
        refine xw_getR dy_through_148 fl_y_29 (xl_n hn (by decide)) rfl r_18_14 ?_
        refine xw_iconst dy_through_151 ki_0 ?_
        refine xw_iald dy_through_152 (xl_n hn (by decide)) rfl vc_0_2 cn_0 ?_
        refine xw_iconst dy_through_153 ki_1 ?_
        refine xw_icmp_ne_mw (J := 212) (a := (if (s4 20 21) ≤ (s4 25 0) then (if a5 = 0 then (fy_pushWord a6 (fy_pushWord v6 s4)) else (fy_pushWord a6 (fy_pushWord v6 (fy_pushWord (s4 20 20) s4)))) else (if a5 = 0 then (fy_pushWord a6 (fy_pushWord v6 (fy_inner (s4 25 0) a3 s4))) else (fy_pushWord a6 (fy_pushWord v6 (fy_pushWord ((fy_inner (s4 25 0) a3 s4) 20 20) (fy_inner (s4 25 0) a3 s4))))))) (b := (if a5 = 0 then (fy_pushWord a6 (fy_pushWord v6 s4)) else (fy_pushWord a6 (fy_pushWord v6 (fy_pushWord (s4 20 20) s4))))) dy_through_154 rfl (fun _ E' k' => ?_) (fun _ E' k' => ?_) ?_
        · refine xw_iload5 dy_through_184 ?_
          refine xw_if_eq_mw (J := 212) (a := (fy_pushWord a6 (fy_pushWord v6 s4))) (b := (fy_pushWord a6 (fy_pushWord v6 (fy_pushWord (s4 20 20) s4)))) dy_through_186 rfl (fun _ E' k' => ?_) (fun _ E' k' => ?_) ?_
          · refine xw_aload0 dy_through_200 ?_
            refine xw_iload8 dy_through_201 ?_
            refine xw_cW dy_through_203 (lk_y_through_203 (xl_n hn (by decide)) rfl) ok_y_pushWord (my_pushWord hl hn hJ_s4) ⟨Nat.le_of_ble_eq_true rfl, Nat.le_of_ble_eq_true rfl⟩ ?_
            refine xw_aload0 dy_through_206 ?_
            refine xw_iload6 dy_through_207 ?_
            refine xw_cW dy_through_209 (lk_y_through_209 (xl_n hn (by decide)) rfl) ok_y_pushWord (my_pushWord hl hn (jy_pushWord hJ_s4)) ⟨Nat.le_of_ble_eq_true rfl, Nat.le_of_ble_eq_true rfl⟩ ?_
            exact k'
          · refine xw_aload0 dy_through_189 ?_
            refine xw_aload0 dy_through_190 ?_
            refine xw_getR dy_through_191 fl_y_13 (xl_n hn (by decide)) rfl r_18_5 ?_
            refine xw_bipush dy_through_194 kb_20 ?_
            refine xw_iald dy_through_196 (xl_n hn (by decide)) rfl vc_20_26 cn_20 ?_
            refine xw_cW dy_through_197 (lk_y_through_197 (xl_n hn (by decide)) rfl) ok_y_pushWord (my_pushWord hl hn hJ_s4) ⟨Nat.le_of_ble_eq_true rfl, Nat.le_of_ble_eq_true rfl⟩ ?_
            refine xw_aload0 dy_through_200 ?_
            refine xw_iload8 dy_through_201 ?_
            refine xw_cW dy_through_203 (lk_y_through_203 (xl_n hn (by decide)) rfl) ok_y_pushWord (my_pushWord hl hn (jy_pushWord hJ_s4)) ⟨Nat.le_of_ble_eq_true rfl, Nat.le_of_ble_eq_true rfl⟩ ?_
            refine xw_aload0 dy_through_206 ?_
            refine xw_iload6 dy_through_207 ?_
            refine xw_cW dy_through_209 (lk_y_through_209 (xl_n hn (by decide)) rfl) ok_y_pushWord (my_pushWord hl hn (jy_pushWord (jy_pushWord hJ_s4))) ⟨Nat.le_of_ble_eq_true rfl, Nat.le_of_ble_eq_true rfl⟩ ?_
            exact k'
          exact k'
        · refine xw_aload0 dy_through_157 ?_
          refine xw_getR dy_through_158 fl_y_32 (xl_n hn (by decide)) rfl r_18_15 ?_
          refine xw_iconst dy_through_161 ki_0 ?_
          refine xw_iald dy_through_162 (xl_n hn (by decide)) rfl vc_0_2 cn_0 ?_
          refine xw_aload0 dy_through_163 ?_
          refine xw_getR dy_through_164 fl_y_13 (xl_n hn (by decide)) rfl r_18_5 ?_
          refine xw_bipush dy_through_167 kb_21 ?_
          refine xw_iald dy_through_169 (xl_n hn (by decide)) rfl vc_21_26 cn_21 ?_
          refine xw_icmp_ge_mw (J := 212) (a := (if a5 = 0 then (fy_pushWord a6 (fy_pushWord v6 s4)) else (fy_pushWord a6 (fy_pushWord v6 (fy_pushWord (s4 20 20) s4))))) (b := (if a5 = 0 then (fy_pushWord a6 (fy_pushWord v6 (fy_inner (s4 25 0) a3 s4))) else (fy_pushWord a6 (fy_pushWord v6 (fy_pushWord ((fy_inner (s4 25 0) a3 s4) 20 20) (fy_inner (s4 25 0) a3 s4)))))) dy_through_170 rfl (fun _ E' k' => ?_) (fun _ E' k' => ?_) ?_
          · refine xw_iload5 dy_through_184 ?_
            refine xw_if_eq_mw (J := 212) (a := (fy_pushWord a6 (fy_pushWord v6 s4))) (b := (fy_pushWord a6 (fy_pushWord v6 (fy_pushWord (s4 20 20) s4)))) dy_through_186 rfl (fun _ E' k' => ?_) (fun _ E' k' => ?_) ?_
            · refine xw_aload0 dy_through_200 ?_
              refine xw_iload8 dy_through_201 ?_
              refine xw_cW dy_through_203 (lk_y_through_203 (xl_n hn (by decide)) rfl) ok_y_pushWord (my_pushWord hl hn hJ_s4) ⟨Nat.le_of_ble_eq_true rfl, Nat.le_of_ble_eq_true rfl⟩ ?_
              refine xw_aload0 dy_through_206 ?_
              refine xw_iload6 dy_through_207 ?_
              refine xw_cW dy_through_209 (lk_y_through_209 (xl_n hn (by decide)) rfl) ok_y_pushWord (my_pushWord hl hn (jy_pushWord hJ_s4)) ⟨Nat.le_of_ble_eq_true rfl, Nat.le_of_ble_eq_true rfl⟩ ?_
              exact k'
            · refine xw_aload0 dy_through_189 ?_
              refine xw_aload0 dy_through_190 ?_
              refine xw_getR dy_through_191 fl_y_13 (xl_n hn (by decide)) rfl r_18_5 ?_
              refine xw_bipush dy_through_194 kb_20 ?_
              refine xw_iald dy_through_196 (xl_n hn (by decide)) rfl vc_20_26 cn_20 ?_
              refine xw_cW dy_through_197 (lk_y_through_197 (xl_n hn (by decide)) rfl) ok_y_pushWord (my_pushWord hl hn hJ_s4) ⟨Nat.le_of_ble_eq_true rfl, Nat.le_of_ble_eq_true rfl⟩ ?_
              refine xw_aload0 dy_through_200 ?_
              refine xw_iload8 dy_through_201 ?_
              refine xw_cW dy_through_203 (lk_y_through_203 (xl_n hn (by decide)) rfl) ok_y_pushWord (my_pushWord hl hn (jy_pushWord hJ_s4)) ⟨Nat.le_of_ble_eq_true rfl, Nat.le_of_ble_eq_true rfl⟩ ?_
              refine xw_aload0 dy_through_206 ?_
              refine xw_iload6 dy_through_207 ?_
              refine xw_cW dy_through_209 (lk_y_through_209 (xl_n hn (by decide)) rfl) ok_y_pushWord (my_pushWord hl hn (jy_pushWord (jy_pushWord hJ_s4))) ⟨Nat.le_of_ble_eq_true rfl, Nat.le_of_ble_eq_true rfl⟩ ?_
              exact k'
            exact k'
          · refine xw_aload0 dy_through_173 ?_
            refine xw_aload0 dy_through_174 ?_
            refine xw_getR dy_through_175 fl_y_32 (xl_n hn (by decide)) rfl r_18_15 ?_
            refine xw_iconst dy_through_178 ki_0 ?_
            refine xw_iald dy_through_179 (xl_n hn (by decide)) rfl vc_0_2 cn_0 ?_
            refine xw_iload3 dy_through_180 ?_
            refine xw_cW dy_through_181 (lk_y_through_181 (xl_n hn (by decide)) rfl) ok_y_inner (my_inner hl hn hp1 hJ_s4) ⟨Nat.le_of_ble_eq_true rfl, Nat.le_of_ble_eq_true rfl⟩ ?_
            refine xw_iload5 dy_through_184 ?_
            refine xw_if_eq_mw (J := 212) (a := (fy_pushWord a6 (fy_pushWord v6 (fy_inner (s4 25 0) a3 s4)))) (b := (fy_pushWord a6 (fy_pushWord v6 (fy_pushWord ((fy_inner (s4 25 0) a3 s4) 20 20) (fy_inner (s4 25 0) a3 s4))))) dy_through_186 rfl (fun _ E' k' => ?_) (fun _ E' k' => ?_) ?_
            · refine xw_aload0 dy_through_200 ?_
              refine xw_iload8 dy_through_201 ?_
              refine xw_cW dy_through_203 (lk_y_through_203 (xl_n hn (by decide)) rfl) ok_y_pushWord (my_pushWord hl hn (jy_inner hp1 hJ_s4)) ⟨Nat.le_of_ble_eq_true rfl, Nat.le_of_ble_eq_true rfl⟩ ?_
              refine xw_aload0 dy_through_206 ?_
              refine xw_iload6 dy_through_207 ?_
              refine xw_cW dy_through_209 (lk_y_through_209 (xl_n hn (by decide)) rfl) ok_y_pushWord (my_pushWord hl hn (jy_pushWord (jy_inner hp1 hJ_s4))) ⟨Nat.le_of_ble_eq_true rfl, Nat.le_of_ble_eq_true rfl⟩ ?_
              exact k'
            · refine xw_aload0 dy_through_189 ?_
              refine xw_aload0 dy_through_190 ?_
              refine xw_getR dy_through_191 fl_y_13 (xl_n hn (by decide)) rfl r_18_5 ?_
              refine xw_bipush dy_through_194 kb_20 ?_
              refine xw_iald dy_through_196 (xl_n hn (by decide)) rfl vc_20_26 cn_20 ?_
              refine xw_cW dy_through_197 (lk_y_through_197 (xl_n hn (by decide)) rfl) ok_y_pushWord (my_pushWord hl hn (jy_inner hp1 hJ_s4)) ⟨Nat.le_of_ble_eq_true rfl, Nat.le_of_ble_eq_true rfl⟩ ?_
              refine xw_aload0 dy_through_200 ?_
              refine xw_iload8 dy_through_201 ?_
              refine xw_cW dy_through_203 (lk_y_through_203 (xl_n hn (by decide)) rfl) ok_y_pushWord (my_pushWord hl hn (jy_pushWord (jy_inner hp1 hJ_s4))) ⟨Nat.le_of_ble_eq_true rfl, Nat.le_of_ble_eq_true rfl⟩ ?_
              refine xw_aload0 dy_through_206 ?_
              refine xw_iload6 dy_through_207 ?_
              refine xw_cW dy_through_209 (lk_y_through_209 (xl_n hn (by decide)) rfl) ok_y_pushWord (my_pushWord hl hn (jy_pushWord (jy_pushWord (jy_inner hp1 hJ_s4)))) ⟨Nat.le_of_ble_eq_true rfl, Nat.le_of_ble_eq_true rfl⟩ ?_
              exact k'
            exact k'
          exact k'
        exact k'
      refine xw_lw (fun s7 e_s7 => ?_)
      have hJ_s7 : yx_J s7 := by rw [e_s7]; exact (xj_i (fun _ => (xj_i (fun _ => (xj_i (fun _ => (xj_i (fun _ => (jy_pushWord (jy_pushWord hJ_s4))) (fun _ => (jy_pushWord (jy_pushWord (jy_pushWord hJ_s4)))))) (fun _ => (xj_i (fun _ => (jy_pushWord (jy_pushWord (jy_inner hp1 hJ_s4)))) (fun _ => (jy_pushWord (jy_pushWord (jy_pushWord (jy_inner hp1 hJ_s4))))))))) (fun _ => (xj_i (fun _ => (jy_pushWord (jy_pushWord hJ_s4))) (fun _ => (jy_pushWord (jy_pushWord (jy_pushWord hJ_s4)))))))) (fun _ => hJ_s4))
      refine xw_aload0 dy_through_212 ?_
      refine xw_iload1 dy_through_213 ?_
      refine xw_iload2 dy_through_214 ?_
      refine xw_cW dy_through_215 (lk_y_through_215 (xl_n hn (by decide)) rfl) ok_y_enter (my_enter hl hn) ⟨Nat.le_of_ble_eq_true rfl, Nat.le_of_ble_eq_true rfl⟩ ?_
      refine xw_lw (fun s8 e_s8 => ?_)
      have hJ_s8 : yx_J s8 := by rw [e_s8]; exact (jy_enter hJ_s7)
      exact xw_vret dy_through_218 rfl
    · exact xw_vret dy_through_133 rfl
  · exact xw_vret dy_through_30 rfl
theorem jy_through {a1 : Int32} {a2 : Int32} {a3 : Int32} {a4 : Int32} {a5 : Int32} {a6 : Int32} {σ : xs_S} (hp1 : jr_R a3 7) (hJ : yx_J σ) : yx_J (fy_through a1 a2 a3 a4 a5 a6 σ) := by
  unfold fy_through
  refine xj_wl (fun s1 e_s1 => ?_)
  have hJ_s1 : yx_J s1 := by rw [e_s1]; exact (xj_i (fun _ => (jy_lookUp vc_0_2 hJ)) (fun _ => (jy_raise hJ)))
  refine xj_wf (fun h2 => ?_) (fun h2 => ?_)
  · refine xj_wl (fun v3 e_v3 => ?_)
    refine xj_wl (fun s4 e_s4 => ?_)
    have hJ_s4 : yx_J s4 := by rw [e_s4]; exact (xj_i (fun _ => (xj_i (fun _ => (jy_raise hJ_s1)) (fun _ => (xj_i (fun _ => (jy_raise hJ_s1)) (fun _ => hJ_s1))))) (fun _ => (xj_i (fun _ => (jy_raise hJ_s1)) (fun _ => (xj_i (fun _ => (jy_raise hJ_s1)) (fun _ => hJ_s1))))))
    refine xj_wf (fun h5 => ?_) (fun h5 => ?_)
    · refine xj_wl (fun v6 e_v6 => ?_)
      refine xj_wl (fun s7 e_s7 => ?_)
      have hJ_s7 : yx_J s7 := by rw [e_s7]; exact (xj_i (fun _ => (xj_i (fun _ => (xj_i (fun _ => (xj_i (fun _ => (jy_pushWord (jy_pushWord hJ_s4))) (fun _ => (jy_pushWord (jy_pushWord (jy_pushWord hJ_s4)))))) (fun _ => (xj_i (fun _ => (jy_pushWord (jy_pushWord (jy_inner hp1 hJ_s4)))) (fun _ => (jy_pushWord (jy_pushWord (jy_pushWord (jy_inner hp1 hJ_s4))))))))) (fun _ => (xj_i (fun _ => (jy_pushWord (jy_pushWord hJ_s4))) (fun _ => (jy_pushWord (jy_pushWord (jy_pushWord hJ_s4)))))))) (fun _ => hJ_s4))
      refine xj_wl (fun s8 e_s8 => ?_)
      have hJ_s8 : yx_J s8 := by rw [e_s8]; exact (jy_enter hJ_s7)
      exact hJ_s8
    · exact hJ_s4
  · exact hJ_s1
def fy_saveWord (a1 : Int32) (a2 : Int32) (σ : xs_S) : xs_S := (if (fy_isRaised σ) = 0 then xl_l ((fy_writeWord a1 a2 (1 : Int32) σ)) (fun s2 => s2) else σ)
set_option maxRecDepth 100000 in
set_option maxHeartbeats 4000000 in
theorem my_saveWord {l : Launch} {N n u : Nat} {a1 : Int32} {a2 : Int32} {σ : xs_S} (hl : l.stackTraces = false) (hn : 29 ≤ n) (hJ : yx_J σ) : xm_m (xk_k N) l ty_saveWord [.ref 18, .int a1, .int a2] (n, u, σ, xr_0) (xe_w n u (fy_saveWord a1 a2 σ)) := by
  refine xm_of hl ok_y_saveWord (Nat.le_of_ble_eq_true rfl) ?_
  show xw_w (xk_k N) l ty_saveWord 0 [some (.ref 18), some (.int a1), some (.int a2)] [] (n, u, σ, xr_0) (xe_w n u (fy_saveWord a1 a2 σ))
  unfold fy_saveWord
  refine xw_aload0 dy_saveWord_0 ?_
  refine xw_cVi dy_saveWord_1 (lk_y_saveWord_1 (xl_n hn (by decide)) rfl) ok_y_isRaised (my_isRaised hl hn) ⟨Nat.le_of_ble_eq_true rfl, Nat.le_of_ble_eq_true rfl⟩ ?_
  refine xw_if_ne' dy_saveWord_4 rfl (fun h1 => ?_) (fun h1 => ?_)
  · exact xw_vret dy_saveWord_14 rfl
  · refine xw_aload0 dy_saveWord_7 ?_
    refine xw_iload1 dy_saveWord_8 ?_
    refine xw_iload2 dy_saveWord_9 ?_
    refine xw_iconst dy_saveWord_10 ki_1 ?_
    refine xw_cW dy_saveWord_11 (lk_y_saveWord_11 (xl_n hn (by decide)) rfl) ok_y_writeWord (my_writeWord hl hn hJ) ⟨Nat.le_of_ble_eq_true rfl, Nat.le_of_ble_eq_true rfl⟩ ?_
    refine xw_lw (fun s2 e_s2 => ?_)
    have hJ_s2 : yx_J s2 := by rw [e_s2]; exact (jy_writeWord hJ)
    exact xw_vret dy_saveWord_14 rfl
theorem jy_saveWord {a1 : Int32} {a2 : Int32} {σ : xs_S} (hJ : yx_J σ) : yx_J (fy_saveWord a1 a2 σ) := by
  unfold fy_saveWord
  refine xj_wf (fun h1 => ?_) (fun h1 => ?_)
  · refine xj_wl (fun s2 e_s2 => ?_)
    have hJ_s2 : yx_J s2 := by rw [e_s2]; exact (jy_writeWord hJ)
    exact hJ_s2
  · exact hJ
def fy_setKind (a1 : Int32) (a2 : Int32) (σ : xs_S) : xs_S := xl_l ((((σ 18 2) + ((8 : Int32) * (a1 / (4 : Int32)))) + (4 : Int32))) (fun v1 => (if (fy_isRaised σ) = 0 then xl_l (fy_readByte v1 (1 : Int32) σ) (fun r3 => (if (fy_isRaised r3.2) = 0 then xl_l ((fy_writeByte v1 ((r3.1 &&& (240 : Int32)) ||| a2) (1 : Int32) r3.2)) (fun s5 => s5) else r3.2)) else σ))
set_option maxRecDepth 100000 in
set_option maxHeartbeats 4000000 in
theorem my_setKind {l : Launch} {N n u : Nat} {a1 : Int32} {a2 : Int32} {σ : xs_S} (hl : l.stackTraces = false) (hn : 29 ≤ n) (hJ : yx_J σ) : xm_m (xk_k N) l ty_setKind [.ref 18, .int a1, .int a2] (n, u, σ, xr_0) (xe_w n u (fy_setKind a1 a2 σ)) := by
  refine xm_of hl ok_y_setKind (Nat.le_of_ble_eq_true rfl) ?_
  show xw_w (xk_k N) l ty_setKind 0 [some (.ref 18), some (.int a1), some (.int a2), none, none] [] (n, u, σ, xr_0) (xe_w n u (fy_setKind a1 a2 σ))
  unfold fy_setKind
  refine xw_aload0 dy_setKind_0 ?_
  refine xw_getI dy_setKind_1 fl_y_81 (by decide) (xl_n hn (by decide)) rfl ?_
  refine xw_bipush dy_setKind_4 kb_8 ?_
  refine xw_iload1 dy_setKind_6 ?_
  refine xw_iconst dy_setKind_7 ki_4 ?_
  refine xw_idiv dy_setKind_8 nz_4 ?_
  refine xw_imul dy_setKind_9 ?_
  refine xw_iadd dy_setKind_10 ?_
  refine xw_iconst dy_setKind_11 ki_4 ?_
  refine xw_iadd dy_setKind_12 ?_
  refine xw_li (fun v1 e_v1 => ?_)
  refine xw_istore3 dy_setKind_13 (Nat.le_of_ble_eq_true rfl) rfl ?_
  refine xw_aload0 dy_setKind_14 ?_
  refine xw_cVi dy_setKind_15 (lk_y_setKind_15 (xl_n hn (by decide)) rfl) ok_y_isRaised (my_isRaised hl hn) ⟨Nat.le_of_ble_eq_true rfl, Nat.le_of_ble_eq_true rfl⟩ ?_
  refine xw_if_eq' dy_setKind_18 rfl (fun h2 => ?_) (fun h2 => ?_)
  · refine xw_aload0 dy_setKind_25 ?_
    refine xw_iload3 dy_setKind_26 ?_
    refine xw_iconst dy_setKind_27 ki_1 ?_
    refine xw_cPi dy_setKind_28 (lk_y_setKind_28 (xl_n hn (by decide)) rfl) ok_y_readByte (my_readByte hl hn hJ) ⟨Nat.le_of_ble_eq_true rfl, Nat.le_of_ble_eq_true rfl⟩ ?_
    refine xw_lpi (fun r3 e_r3 => ?_)
    have hJ_r3 : yx_J r3.2 := by rw [e_r3]; exact (jy_readByte hJ)
    refine xw_istore4 dy_setKind_31 (Nat.le_of_ble_eq_true rfl) rfl ?_
    refine xw_aload0 dy_setKind_33 ?_
    refine xw_cVi dy_setKind_34 (lk_y_setKind_34 (xl_n hn (by decide)) rfl) ok_y_isRaised (my_isRaised hl hn) ⟨Nat.le_of_ble_eq_true rfl, Nat.le_of_ble_eq_true rfl⟩ ?_
    refine xw_if_ne' dy_setKind_37 rfl (fun h4 => ?_) (fun h4 => ?_)
    · exact xw_vret dy_setKind_54 rfl
    · refine xw_aload0 dy_setKind_40 ?_
      refine xw_iload3 dy_setKind_41 ?_
      refine xw_iload4 dy_setKind_42 ?_
      refine xw_sipush dy_setKind_44 ks_240 ?_
      refine xw_iand dy_setKind_47 ?_
      refine xw_iload2 dy_setKind_48 ?_
      refine xw_ior dy_setKind_49 ?_
      refine xw_iconst dy_setKind_50 ki_1 ?_
      refine xw_cW dy_setKind_51 (lk_y_setKind_51 (xl_n hn (by decide)) rfl) ok_y_writeByte (my_writeByte hl hn hJ_r3) ⟨Nat.le_of_ble_eq_true rfl, Nat.le_of_ble_eq_true rfl⟩ ?_
      refine xw_lw (fun s5 e_s5 => ?_)
      have hJ_s5 : yx_J s5 := by rw [e_s5]; exact (jy_writeByte hJ_r3)
      exact xw_vret dy_setKind_54 rfl
  · refine xw_iconst dy_setKind_21 ki_0 ?_
    refine xw_goto dy_setKind_22 rfl ?_
    refine xw_istore4 dy_setKind_31 (Nat.le_of_ble_eq_true rfl) rfl ?_
    refine xw_aload0 dy_setKind_33 ?_
    refine xw_cVi dy_setKind_34 (lk_y_setKind_34 (xl_n hn (by decide)) rfl) ok_y_isRaised (my_isRaised hl hn) ⟨Nat.le_of_ble_eq_true rfl, Nat.le_of_ble_eq_true rfl⟩ ?_
    refine xw_if_ne_t dy_setKind_37 rfl h2 ?_
    exact xw_vret dy_setKind_54 rfl
theorem jy_setKind {a1 : Int32} {a2 : Int32} {σ : xs_S} (hJ : yx_J σ) : yx_J (fy_setKind a1 a2 σ) := by
  unfold fy_setKind
  refine xj_wl (fun v1 e_v1 => ?_)
  refine xj_wf (fun h2 => ?_) (fun h2 => ?_)
  · refine xj_wl (fun r3 e_r3 => ?_)
    have hJ_r3 : yx_J r3.2 := by rw [e_r3]; exact (jy_readByte hJ)
    refine xj_wf (fun h4 => ?_) (fun h4 => ?_)
    · refine xj_wl (fun s5 e_s5 => ?_)
      have hJ_s5 : yx_J s5 := by rw [e_s5]; exact (jy_writeByte hJ_r3)
      exact hJ_s5
    · exact hJ_r3
  · exact hJ
def fy_take (a1 : Int32) (a2 : Int32) (σ : xs_S) : xs_S := (if (fy_isRaised σ) = 0 then xl_l ((fy_setNull a1 (0 : Int32) σ)) (fun s2 => (if (fy_isNull a2 s2) = 0 then xl_l ((fy_lookUp a2 (0 : Int32) s2)) (fun s4 => (if (fy_isRaised s4) = 0 then xl_l ((s4 24 0)) (fun v6 => xl_l ((if a1 = 0 then (if v6 = (1 : Int32) then (1 : Int32) else (if v6 = (2 : Int32) then (1 : Int32) else (0 : Int32))) else (if a1 = (1 : Int32) then (if v6 = (4 : Int32) then (1 : Int32) else (0 : Int32)) else (if v6 < (1 : Int32) then (0 : Int32) else (if (4 : Int32) < v6 then (0 : Int32) else (1 : Int32)))))) (fun v7 => (if v7 = 0 then xl_l ((fy_raise (10 : Int32) (fy_codeOf a2 s4) s4)) (fun s9 => s9) else (if (s4 26 0) = 0 then xl_l ((fy_raise (10 : Int32) (fy_codeOf a2 s4) s4)) (fun s12 => s12) else xl_l ((fy_setSegment a1 a2 (0 : Int32) s4)) (fun s11 => s11))))) else s4)) else (if a1 = (2 : Int32) then s2 else xl_l ((fy_raise (10 : Int32) (0 : Int32) s2)) (fun s14 => s14)))) else σ)
set_option maxRecDepth 100000 in
set_option maxHeartbeats 4000000 in
theorem my_take {l : Launch} {N n u : Nat} {a1 : Int32} {a2 : Int32} {σ : xs_S} (hl : l.stackTraces = false) (hn : 29 ≤ n) (hp1 : vp_in a1 3) (hJ : yx_J σ) : xm_m (xk_k N) l ty_take [.ref 18, .int a1, .int a2] (n, u, σ, xr_0) (xe_w n u (fy_take a1 a2 σ)) := by
  refine xm_of hl ok_y_take (Nat.le_of_ble_eq_true rfl) ?_
  show xw_w (xk_k N) l ty_take 0 [some (.ref 18), some (.int a1), some (.int a2), none, none] [] (n, u, σ, xr_0) (xe_w n u (fy_take a1 a2 σ))
  unfold fy_take
  refine xw_aload0 dy_take_0 ?_
  refine xw_cVi dy_take_1 (lk_y_take_1 (xl_n hn (by decide)) rfl) ok_y_isRaised (my_isRaised hl hn) ⟨Nat.le_of_ble_eq_true rfl, Nat.le_of_ble_eq_true rfl⟩ ?_
  refine xw_if_eq' dy_take_4 rfl (fun h1 => ?_) (fun h1 => ?_)
  · refine xw_aload0 dy_take_8 ?_
    refine xw_iload1 dy_take_9 ?_
    refine xw_iconst dy_take_10 ki_0 ?_
    refine xw_cW dy_take_11 (lk_y_take_11 (xl_n hn (by decide)) rfl) ok_y_setNull (my_setNull hl hn hp1) ⟨Nat.le_of_ble_eq_true rfl, Nat.le_of_ble_eq_true rfl⟩ ?_
    refine xw_lw (fun s2 e_s2 => ?_)
    have hJ_s2 : yx_J s2 := by rw [e_s2]; exact (jy_setNull hp1 hJ)
    refine xw_iload2 dy_take_14 ?_
    refine xw_cVi dy_take_15 (lk_y_take_15) ok_y_isNull (my_isNull hl hn) ⟨Nat.le_of_ble_eq_true rfl, Nat.le_of_ble_eq_true rfl⟩ ?_
    refine xw_if_eq' dy_take_18 rfl (fun h3 => ?_) (fun h3 => ?_)
    · refine xw_aload0 dy_take_34 ?_
      refine xw_iload2 dy_take_35 ?_
      refine xw_iconst dy_take_36 ki_0 ?_
      refine xw_cW dy_take_37 (lk_y_take_37 (xl_n hn (by decide)) rfl) ok_y_lookUp (my_lookUp hl hn vc_0_2 hJ_s2) ⟨Nat.le_of_ble_eq_true rfl, Nat.le_of_ble_eq_true rfl⟩ ?_
      refine xw_lw (fun s4 e_s4 => ?_)
      have hJ_s4 : yx_J s4 := by rw [e_s4]; exact (jy_lookUp vc_0_2 hJ_s2)
      refine xw_aload0 dy_take_40 ?_
      refine xw_cVi dy_take_41 (lk_y_take_41 (xl_n hn (by decide)) rfl) ok_y_isRaised (my_isRaised hl hn) ⟨Nat.le_of_ble_eq_true rfl, Nat.le_of_ble_eq_true rfl⟩ ?_
      refine xw_if_eq' dy_take_44 rfl (fun h5 => ?_) (fun h5 => ?_)
      · refine xw_aload0 dy_take_48 ?_
        refine xw_getR dy_take_49 fl_y_29 (xl_n hn (by decide)) rfl r_18_14 ?_
        refine xw_iconst dy_take_52 ki_0 ?_
        refine xw_iald dy_take_53 (xl_n hn (by decide)) rfl vc_0_2 cn_0 ?_
        refine xw_li (fun v6 e_v6 => ?_)
        refine xw_istore3 dy_take_54 (Nat.le_of_ble_eq_true rfl) rfl ?_
        refine xw_iload1 dy_take_55 ?_
        refine xw_if_ne_mi (J := 110) (a := (if v6 = (1 : Int32) then (1 : Int32) else (if v6 = (2 : Int32) then (1 : Int32) else (0 : Int32)))) (b := (if a1 = (1 : Int32) then (if v6 = (4 : Int32) then (1 : Int32) else (0 : Int32)) else (if v6 < (1 : Int32) then (0 : Int32) else (if (4 : Int32) < v6 then (0 : Int32) else (1 : Int32))))) dy_take_56 rfl (fun _ E' k' => ?_) (fun _ E' k' => ?_) ?_
        · refine xw_iload1 dy_take_77 ?_
          refine xw_iconst dy_take_78 ki_1 ?_
          refine xw_icmp_ne_mi (J := 110) (a := (if v6 = (4 : Int32) then (1 : Int32) else (0 : Int32))) (b := (if v6 < (1 : Int32) then (0 : Int32) else (if (4 : Int32) < v6 then (0 : Int32) else (1 : Int32)))) dy_take_79 rfl (fun _ E' k' => ?_) (fun _ E' k' => ?_) ?_
          · refine xw_iload3 dy_take_95 ?_
            refine xw_iconst dy_take_96 ki_1 ?_
            refine xw_icmp_lt_mi (J := 110) (a := (0 : Int32)) (b := (if (4 : Int32) < v6 then (0 : Int32) else (1 : Int32))) dy_take_97 rfl (fun _ E' k' => ?_) (fun _ E' k' => ?_) ?_
            · refine xw_iconst dy_take_109 ki_0 ?_
              exact k'
            · refine xw_iload3 dy_take_100 ?_
              refine xw_iconst dy_take_101 ki_4 ?_
              refine xw_icmp_gt_mi (J := 110) (a := (0 : Int32)) (b := (1 : Int32)) dy_take_102 rfl (fun _ E' k' => ?_) (fun _ E' k' => ?_) ?_
              · refine xw_iconst dy_take_109 ki_0 ?_
                exact k'
              · refine xw_iconst dy_take_105 ki_1 ?_
                refine xw_goto dy_take_106 rfl ?_
                exact k'
              exact k'
            exact k'
          · refine xw_iload3 dy_take_82 ?_
            refine xw_iconst dy_take_83 ki_4 ?_
            refine xw_icmp_ne_mi (J := 110) (a := (1 : Int32)) (b := (0 : Int32)) dy_take_84 rfl (fun _ E' k' => ?_) (fun _ E' k' => ?_) ?_
            · refine xw_iconst dy_take_91 ki_0 ?_
              refine xw_goto dy_take_92 rfl ?_
              exact k'
            · refine xw_iconst dy_take_87 ki_1 ?_
              refine xw_goto dy_take_88 rfl ?_
              exact k'
            exact k'
          exact k'
        · refine xw_iload3 dy_take_59 ?_
          refine xw_iconst dy_take_60 ki_1 ?_
          refine xw_icmp_eq_mi (J := 110) (a := (1 : Int32)) (b := (if v6 = (2 : Int32) then (1 : Int32) else (0 : Int32))) dy_take_61 rfl (fun _ E' k' => ?_) (fun _ E' k' => ?_) ?_
          · refine xw_iconst dy_take_69 ki_1 ?_
            refine xw_goto dy_take_70 rfl ?_
            exact k'
          · refine xw_iload3 dy_take_64 ?_
            refine xw_iconst dy_take_65 ki_2 ?_
            refine xw_icmp_ne_mi (J := 110) (a := (1 : Int32)) (b := (0 : Int32)) dy_take_66 rfl (fun _ E' k' => ?_) (fun _ E' k' => ?_) ?_
            · refine xw_iconst dy_take_73 ki_0 ?_
              refine xw_goto dy_take_74 rfl ?_
              exact k'
            · refine xw_iconst dy_take_69 ki_1 ?_
              refine xw_goto dy_take_70 rfl ?_
              exact k'
            exact k'
          exact k'
        refine xw_li (fun v7 e_v7 => ?_)
        refine xw_istore4 dy_take_110 (Nat.le_of_ble_eq_true rfl) rfl ?_
        refine xw_iload4 dy_take_112 ?_
        refine xw_if_eq' dy_take_114 rfl (fun h8 => ?_) (fun h8 => ?_)
        · refine xw_aload0 dy_take_126 ?_
          refine xw_bipush dy_take_127 kb_10 ?_
          refine xw_iload2 dy_take_129 ?_
          refine xw_cVi dy_take_130 (lk_y_take_130) ok_y_codeOf (my_codeOf hl hn) ⟨Nat.le_of_ble_eq_true rfl, Nat.le_of_ble_eq_true rfl⟩ ?_
          refine xw_cW dy_take_133 (lk_y_take_133 (xl_n hn (by decide)) rfl) ok_y_raise (my_raise hl hn) ⟨Nat.le_of_ble_eq_true rfl, Nat.le_of_ble_eq_true rfl⟩ ?_
          refine xw_lw (fun s9 e_s9 => ?_)
          have hJ_s9 : yx_J s9 := by rw [e_s9]; exact (jy_raise hJ_s4)
          refine xw_goto dy_take_136 rfl ?_
          exact xw_vret dy_take_146 rfl
        · refine xw_aload0 dy_take_117 ?_
          refine xw_getR dy_take_118 fl_y_35 (xl_n hn (by decide)) rfl r_18_16 ?_
          refine xw_iconst dy_take_121 ki_0 ?_
          refine xw_zald dy_take_122 (xl_n hn (by decide)) rfl vc_0_2 cn_0 ?_
          refine xw_if_ne' dy_take_123 rfl (fun h10 => ?_) (fun h10 => ?_)
          · refine xw_aload0 dy_take_139 ?_
            refine xw_iload1 dy_take_140 ?_
            refine xw_iload2 dy_take_141 ?_
            refine xw_iconst dy_take_142 ki_0 ?_
            refine xw_cW dy_take_143 (lk_y_take_143 (xl_n hn (by decide)) rfl) ok_y_setSegment (my_setSegment hl hn hp1 vc_0_2) ⟨Nat.le_of_ble_eq_true rfl, Nat.le_of_ble_eq_true rfl⟩ ?_
            refine xw_lw (fun s11 e_s11 => ?_)
            have hJ_s11 : yx_J s11 := by rw [e_s11]; exact (jy_setSegment hp1 vc_0_2 hJ_s4)
            exact xw_vret dy_take_146 rfl
          · refine xw_aload0 dy_take_126 ?_
            refine xw_bipush dy_take_127 kb_10 ?_
            refine xw_iload2 dy_take_129 ?_
            refine xw_cVi dy_take_130 (lk_y_take_130) ok_y_codeOf (my_codeOf hl hn) ⟨Nat.le_of_ble_eq_true rfl, Nat.le_of_ble_eq_true rfl⟩ ?_
            refine xw_cW dy_take_133 (lk_y_take_133 (xl_n hn (by decide)) rfl) ok_y_raise (my_raise hl hn) ⟨Nat.le_of_ble_eq_true rfl, Nat.le_of_ble_eq_true rfl⟩ ?_
            refine xw_lw (fun s12 e_s12 => ?_)
            have hJ_s12 : yx_J s12 := by rw [e_s12]; exact (jy_raise hJ_s4)
            refine xw_goto dy_take_136 rfl ?_
            exact xw_vret dy_take_146 rfl
      · exact xw_vret dy_take_47 rfl
    · refine xw_iload1 dy_take_21 ?_
      refine xw_iconst dy_take_22 ki_2 ?_
      refine xw_icmp_eq' dy_take_23 rfl (fun h13 => ?_) (fun h13 => ?_)
      · exact xw_vret dy_take_33 rfl
      · refine xw_aload0 dy_take_26 ?_
        refine xw_bipush dy_take_27 kb_10 ?_
        refine xw_iconst dy_take_29 ki_0 ?_
        refine xw_cW dy_take_30 (lk_y_take_30 (xl_n hn (by decide)) rfl) ok_y_raise (my_raise hl hn) ⟨Nat.le_of_ble_eq_true rfl, Nat.le_of_ble_eq_true rfl⟩ ?_
        refine xw_lw (fun s14 e_s14 => ?_)
        have hJ_s14 : yx_J s14 := by rw [e_s14]; exact (jy_raise hJ_s2)
        exact xw_vret dy_take_33 rfl
  · exact xw_vret dy_take_7 rfl
theorem jy_take {a1 : Int32} {a2 : Int32} {σ : xs_S} (hp1 : vp_in a1 3) (hJ : yx_J σ) : yx_J (fy_take a1 a2 σ) := by
  unfold fy_take
  refine xj_wf (fun h1 => ?_) (fun h1 => ?_)
  · refine xj_wl (fun s2 e_s2 => ?_)
    have hJ_s2 : yx_J s2 := by rw [e_s2]; exact (jy_setNull hp1 hJ)
    refine xj_wf (fun h3 => ?_) (fun h3 => ?_)
    · refine xj_wl (fun s4 e_s4 => ?_)
      have hJ_s4 : yx_J s4 := by rw [e_s4]; exact (jy_lookUp vc_0_2 hJ_s2)
      refine xj_wf (fun h5 => ?_) (fun h5 => ?_)
      · refine xj_wl (fun v6 e_v6 => ?_)
        refine xj_wl (fun v7 e_v7 => ?_)
        refine xj_wf (fun h8 => ?_) (fun h8 => ?_)
        · refine xj_wl (fun s9 e_s9 => ?_)
          have hJ_s9 : yx_J s9 := by rw [e_s9]; exact (jy_raise hJ_s4)
          exact hJ_s9
        · refine xj_wf (fun h10 => ?_) (fun h10 => ?_)
          · refine xj_wl (fun s12 e_s12 => ?_)
            have hJ_s12 : yx_J s12 := by rw [e_s12]; exact (jy_raise hJ_s4)
            exact hJ_s12
          · refine xj_wl (fun s11 e_s11 => ?_)
            have hJ_s11 : yx_J s11 := by rw [e_s11]; exact (jy_setSegment hp1 vc_0_2 hJ_s4)
            exact hJ_s11
      · exact hJ_s4
    · refine xj_wf (fun h13 => ?_) (fun h13 => ?_)
      · exact hJ_s2
      · refine xj_wl (fun s14 e_s14 => ?_)
        have hJ_s14 : yx_J s14 := by rw [e_s14]; exact (jy_raise hJ_s2)
        exact hJ_s14
  · exact hJ
def fy_switchTo (a1 : Int32) (a2 : Int32) (σ : xs_S) : xs_S := xl_l ((if (σ 24 0) = (if a2 = (2 : Int32) then (6 : Int32) else (5 : Int32)) then σ else (fy_raise (13 : Int32) (fy_codeOf a1 σ) σ))) (fun s1 => xl_l ((s1 22 0)) (fun v2 => xl_l ((if (fy_isRaised s1) = 0 then (xu_u (fy_readWord ((v2 + (14 : Int32)) + ((2 : Int32) * (0 : Int32))) (1 : Int32) s1).2 28 0 (fy_readWord ((v2 + (14 : Int32)) + ((2 : Int32) * (0 : Int32))) (1 : Int32) s1).1) else s1)) (fun s3 => xl_l ((if (fy_isRaised s3) = 0 then (xu_u (fy_readWord ((v2 + (14 : Int32)) + ((2 : Int32) * (1 : Int32))) (1 : Int32) s3).2 28 1 (fy_readWord ((v2 + (14 : Int32)) + ((2 : Int32) * (1 : Int32))) (1 : Int32) s3).1) else s3)) (fun s4 => xl_l ((if (fy_isRaised s4) = 0 then (xu_u (fy_readWord ((v2 + (14 : Int32)) + ((2 : Int32) * (2 : Int32))) (1 : Int32) s4).2 28 2 (fy_readWord ((v2 + (14 : Int32)) + ((2 : Int32) * (2 : Int32))) (1 : Int32) s4).1) else s4)) (fun s5 => xl_l ((if (fy_isRaised s5) = 0 then (xu_u (fy_readWord ((v2 + (14 : Int32)) + ((2 : Int32) * (3 : Int32))) (1 : Int32) s5).2 28 3 (fy_readWord ((v2 + (14 : Int32)) + ((2 : Int32) * (3 : Int32))) (1 : Int32) s5).1) else s5)) (fun s6 => xl_l ((if (fy_isRaised s6) = 0 then (xu_u (fy_readWord ((v2 + (14 : Int32)) + ((2 : Int32) * (4 : Int32))) (1 : Int32) s6).2 28 4 (fy_readWord ((v2 + (14 : Int32)) + ((2 : Int32) * (4 : Int32))) (1 : Int32) s6).1) else s6)) (fun s7 => xl_l ((if (fy_isRaised s7) = 0 then (xu_u (fy_readWord ((v2 + (14 : Int32)) + ((2 : Int32) * (5 : Int32))) (1 : Int32) s7).2 28 5 (fy_readWord ((v2 + (14 : Int32)) + ((2 : Int32) * (5 : Int32))) (1 : Int32) s7).1) else s7)) (fun s8 => xl_l ((if (fy_isRaised s8) = 0 then (xu_u (fy_readWord ((v2 + (14 : Int32)) + ((2 : Int32) * (6 : Int32))) (1 : Int32) s8).2 28 6 (fy_readWord ((v2 + (14 : Int32)) + ((2 : Int32) * (6 : Int32))) (1 : Int32) s8).1) else s8)) (fun s9 => xl_l ((if (fy_isRaised s9) = 0 then (xu_u (fy_readWord ((v2 + (14 : Int32)) + ((2 : Int32) * (7 : Int32))) (1 : Int32) s9).2 28 7 (fy_readWord ((v2 + (14 : Int32)) + ((2 : Int32) * (7 : Int32))) (1 : Int32) s9).1) else s9)) (fun s10 => xl_l (((s10 20 23) + (14 : Int32))) (fun v11 => xl_l ((fy_saveWord v11 (fy_nextIp s10) s10)) (fun s12 => xl_l ((fy_saveWord (v11 + (2 : Int32)) (if a2 = (2 : Int32) then ((s12 20 20) &&& (1 : Int32)) else (s12 20 20)) s12)) (fun s13 => xl_l ((fy_saveWord (v11 + (4 : Int32)) (s13 20 18) s13)) (fun s14 => xl_l ((fy_saveWord (v11 + (6 : Int32)) (s14 20 0) s14)) (fun s15 => xl_l ((fy_saveWord (v11 + (8 : Int32)) (s15 20 1) s15)) (fun s16 => xl_l ((fy_saveWord (v11 + (10 : Int32)) (s16 20 2) s16)) (fun s17 => xl_l ((fy_saveWord (v11 + (12 : Int32)) (s17 20 21) s17)) (fun s18 => xl_l ((fy_saveWord (v11 + (14 : Int32)) (s18 20 24) s18)) (fun s19 => xl_l ((if a2 = (1 : Int32) then s19 else (if (fy_isNull (s19 20 22) s19) = 0 then (fy_setKind (s19 20 22) (5 : Int32) s19) else s19))) (fun s20 => xl_l ((if a2 = (2 : Int32) then s20 else (fy_setKind a1 (6 : Int32) s20))) (fun s21 => xl_l ((if a2 = (1 : Int32) then (fy_saveWord v2 (s21 20 22) s21) else s21)) (fun s22 => (if (fy_isRaised s22) = 0 then xl_l ((xu_u s22 18 10 ((1 : Int32) &&& 1))) (fun s24 => xl_l ((xu_u s24 18 11 ((1 : Int32) &&& 1))) (fun s25 => xl_l ((xu_u s25 20 22 (fy_codeOf a1 s25))) (fun s26 => xl_l ((xu_u s26 20 23 v2)) (fun s27 => xl_l ((xu_u s27 20 19 (s27 28 0))) (fun s28 => xl_l ((xu_u s28 20 20 (((s28 28 1) &&& (3 : Int32)) ||| (if a2 = (1 : Int32) then (2 : Int32) else (0 : Int32))))) (fun s29 => xl_l ((xu_u s29 20 18 (s29 28 2))) (fun s30 => xl_l ((xu_u s30 20 21 ((s30 28 6) &&& (3 : Int32)))) (fun s31 => xl_l ((xu_u s31 20 24 ((s31 28 7) &&& (31 : Int32)))) (fun s32 => xl_l ((s32 28 4)) (fun v33 => xl_l ((s32 28 5)) (fun v34 => xl_l ((fy_take (0 : Int32) (s32 28 3) s32)) (fun s35 => xl_l ((fy_take (1 : Int32) v33 s35)) (fun s36 => xl_l ((fy_take (2 : Int32) v34 s36)) (fun s37 => s37)))))))))))))) else s22)))))))))))))))))))))))
set_option maxRecDepth 100000 in
set_option maxHeartbeats 4000000 in
theorem my_switchTo {l : Launch} {N n u : Nat} {a1 : Int32} {a2 : Int32} {σ : xs_S} (hl : l.stackTraces = false) (hn : 29 ≤ n) (hJ : yx_J σ) : xm_m (xk_k N) l ty_switchTo [.ref 18, .int a1, .int a2] (n, u, σ, xr_0) (xe_w n u (fy_switchTo a1 a2 σ)) := by
  refine xm_of hl ok_y_switchTo (Nat.le_of_ble_eq_true rfl) ?_
  show xw_w (xk_k N) l ty_switchTo 0 [some (.ref 18), some (.int a1), some (.int a2), none, none, none, none] [] (n, u, σ, xr_0) (xe_w n u (fy_switchTo a1 a2 σ))
  unfold fy_switchTo
  refine xw_aload0 dy_switchTo_0 ?_
  refine xw_getR dy_switchTo_1 fl_y_29 (xl_n hn (by decide)) rfl r_18_14 ?_
  refine xw_iconst dy_switchTo_4 ki_0 ?_
  refine xw_iald dy_switchTo_5 (xl_n hn (by decide)) rfl vc_0_2 cn_0 ?_
  refine xw_iload2 dy_switchTo_6 ?_
  refine xw_iconst dy_switchTo_7 ki_2 ?_
  refine xw_icmp_ne_mi (J := 17) (a := (6 : Int32)) (b := (5 : Int32)) dy_switchTo_8 rfl (fun _ E' k' => ?_) (fun _ E' k' => ?_) ?_
  · refine xw_iconst dy_switchTo_16 ki_5 ?_
    exact k'
  · refine xw_bipush dy_switchTo_11 kb_6 ?_
    refine xw_goto dy_switchTo_13 rfl ?_
    exact k'
  refine xw_icmp_eq_mw (J := 30) (a := σ) (b := (fy_raise (13 : Int32) (fy_codeOf a1 σ) σ)) dy_switchTo_17 rfl (fun _ E' k' => ?_) (fun _ E' k' => ?_) ?_
  · exact k'
  · refine xw_aload0 dy_switchTo_20 ?_
    refine xw_bipush dy_switchTo_21 kb_13 ?_
    refine xw_iload1 dy_switchTo_23 ?_
    refine xw_cVi dy_switchTo_24 (lk_y_switchTo_24) ok_y_codeOf (my_codeOf hl hn) ⟨Nat.le_of_ble_eq_true rfl, Nat.le_of_ble_eq_true rfl⟩ ?_
    refine xw_cW dy_switchTo_27 (lk_y_switchTo_27 (xl_n hn (by decide)) rfl) ok_y_raise (my_raise hl hn) ⟨Nat.le_of_ble_eq_true rfl, Nat.le_of_ble_eq_true rfl⟩ ?_
    exact k'
  refine xw_lw (fun s1 e_s1 => ?_)
  have hJ_s1 : yx_J s1 := by rw [e_s1]; exact (xj_i (fun _ => hJ) (fun _ => (jy_raise hJ)))
  refine xw_aload0 dy_switchTo_30 ?_
  refine xw_getR dy_switchTo_31 fl_y_23 (xl_n hn (by decide)) rfl r_18_12 ?_
  refine xw_iconst dy_switchTo_34 ki_0 ?_
  refine xw_iald dy_switchTo_35 (xl_n hn (by decide)) rfl vc_0_2 cn_0 ?_
  refine xw_li (fun v2 e_v2 => ?_)
  refine xw_istore3 dy_switchTo_36 (Nat.le_of_ble_eq_true rfl) rfl ?_
  refine xw_iconst dy_switchTo_37 ki_0 ?_
  refine xw_istore4 dy_switchTo_38 (Nat.le_of_ble_eq_true rfl) rfl ?_
  refine xw_iload4 dy_switchTo_40 ?_
  refine xw_bipush dy_switchTo_42 kb_8 ?_
  refine xw_icmp_ge_f dy_switchTo_44 rfl (by decide) ?_
  refine xw_aload0 dy_switchTo_47 ?_
  refine xw_cVi dy_switchTo_48 (lk_y_switchTo_48 (xl_n hn (by decide)) rfl) ok_y_isRaised (my_isRaised hl hn) ⟨Nat.le_of_ble_eq_true rfl, Nat.le_of_ble_eq_true rfl⟩ ?_
  refine xw_if_ne_mw (J := 75) (a := (xu_u (fy_readWord ((v2 + (14 : Int32)) + ((2 : Int32) * (0 : Int32))) (1 : Int32) s1).2 28 0 (fy_readWord ((v2 + (14 : Int32)) + ((2 : Int32) * (0 : Int32))) (1 : Int32) s1).1)) (b := s1) dy_switchTo_51 rfl (fun _ E' k' => ?_) (fun _ E' k' => ?_) ?_
  · exact k'
  · refine xw_aload0 dy_switchTo_54 ?_
    refine xw_getR dy_switchTo_55 fl_y_42 (xl_n hn (by decide)) rfl r_18_18 ?_
    refine xw_iload4 dy_switchTo_58 ?_
    refine xw_aload0 dy_switchTo_60 ?_
    refine xw_iload3 dy_switchTo_61 ?_
    refine xw_bipush dy_switchTo_62 kb_14 ?_
    refine xw_iadd dy_switchTo_64 ?_
    refine xw_iconst dy_switchTo_65 ki_2 ?_
    refine xw_iload4 dy_switchTo_66 ?_
    refine xw_imul dy_switchTo_68 ?_
    refine xw_iadd dy_switchTo_69 ?_
    refine xw_iconst dy_switchTo_70 ki_1 ?_
    refine xw_cPi dy_switchTo_71 (lk_y_switchTo_71 (xl_n hn (by decide)) rfl) ok_y_readWord (my_readWord hl hn hJ_s1) ⟨Nat.le_of_ble_eq_true rfl, Nat.le_of_ble_eq_true rfl⟩ ?_
    refine xw_iast dy_switchTo_74 (by decide) (xl_n hn (by decide)) rfl vc_0_8 cn_0 ?_
    exact k'
  refine xw_lw (fun s3 e_s3 => ?_)
  have hJ_s3 : yx_J s3 := by rw [e_s3]; exact (xj_i (fun _ => (yx_u (jy_readWord hJ_s1) (by decide))) (fun _ => hJ_s1))
  refine xw_iinc4 dy_switchTo_75 ic_0_1 (Nat.le_of_ble_eq_true rfl) rfl ?_
  refine xw_goto dy_switchTo_78 rfl ?_
  refine xw_iload4 dy_switchTo_40 ?_
  refine xw_bipush dy_switchTo_42 kb_8 ?_
  refine xw_icmp_ge_f dy_switchTo_44 rfl (by decide) ?_
  refine xw_aload0 dy_switchTo_47 ?_
  refine xw_cVi dy_switchTo_48 (lk_y_switchTo_48 (xl_n hn (by decide)) rfl) ok_y_isRaised (my_isRaised hl hn) ⟨Nat.le_of_ble_eq_true rfl, Nat.le_of_ble_eq_true rfl⟩ ?_
  refine xw_if_ne_mw (J := 75) (a := (xu_u (fy_readWord ((v2 + (14 : Int32)) + ((2 : Int32) * (1 : Int32))) (1 : Int32) s3).2 28 1 (fy_readWord ((v2 + (14 : Int32)) + ((2 : Int32) * (1 : Int32))) (1 : Int32) s3).1)) (b := s3) dy_switchTo_51 rfl (fun _ E' k' => ?_) (fun _ E' k' => ?_) ?_
  · exact k'
  · refine xw_aload0 dy_switchTo_54 ?_
    refine xw_getR dy_switchTo_55 fl_y_42 (xl_n hn (by decide)) rfl r_18_18 ?_
    refine xw_iload4 dy_switchTo_58 ?_
    refine xw_aload0 dy_switchTo_60 ?_
    refine xw_iload3 dy_switchTo_61 ?_
    refine xw_bipush dy_switchTo_62 kb_14 ?_
    refine xw_iadd dy_switchTo_64 ?_
    refine xw_iconst dy_switchTo_65 ki_2 ?_
    refine xw_iload4 dy_switchTo_66 ?_
    refine xw_imul dy_switchTo_68 ?_
    refine xw_iadd dy_switchTo_69 ?_
    refine xw_iconst dy_switchTo_70 ki_1 ?_
    refine xw_cPi dy_switchTo_71 (lk_y_switchTo_71 (xl_n hn (by decide)) rfl) ok_y_readWord (my_readWord hl hn hJ_s3) ⟨Nat.le_of_ble_eq_true rfl, Nat.le_of_ble_eq_true rfl⟩ ?_
    refine xw_iast dy_switchTo_74 (by decide) (xl_n hn (by decide)) rfl vc_1_8 cn_1 ?_
    exact k'
  refine xw_lw (fun s4 e_s4 => ?_)
  have hJ_s4 : yx_J s4 := by rw [e_s4]; exact (xj_i (fun _ => (yx_u (jy_readWord hJ_s3) (by decide))) (fun _ => hJ_s3))
  refine xw_iinc4 dy_switchTo_75 ic_1_1 (Nat.le_of_ble_eq_true rfl) rfl ?_
  refine xw_goto dy_switchTo_78 rfl ?_
  refine xw_iload4 dy_switchTo_40 ?_
  refine xw_bipush dy_switchTo_42 kb_8 ?_
  refine xw_icmp_ge_f dy_switchTo_44 rfl (by decide) ?_
  refine xw_aload0 dy_switchTo_47 ?_
  refine xw_cVi dy_switchTo_48 (lk_y_switchTo_48 (xl_n hn (by decide)) rfl) ok_y_isRaised (my_isRaised hl hn) ⟨Nat.le_of_ble_eq_true rfl, Nat.le_of_ble_eq_true rfl⟩ ?_
  refine xw_if_ne_mw (J := 75) (a := (xu_u (fy_readWord ((v2 + (14 : Int32)) + ((2 : Int32) * (2 : Int32))) (1 : Int32) s4).2 28 2 (fy_readWord ((v2 + (14 : Int32)) + ((2 : Int32) * (2 : Int32))) (1 : Int32) s4).1)) (b := s4) dy_switchTo_51 rfl (fun _ E' k' => ?_) (fun _ E' k' => ?_) ?_
  · exact k'
  · refine xw_aload0 dy_switchTo_54 ?_
    refine xw_getR dy_switchTo_55 fl_y_42 (xl_n hn (by decide)) rfl r_18_18 ?_
    refine xw_iload4 dy_switchTo_58 ?_
    refine xw_aload0 dy_switchTo_60 ?_
    refine xw_iload3 dy_switchTo_61 ?_
    refine xw_bipush dy_switchTo_62 kb_14 ?_
    refine xw_iadd dy_switchTo_64 ?_
    refine xw_iconst dy_switchTo_65 ki_2 ?_
    refine xw_iload4 dy_switchTo_66 ?_
    refine xw_imul dy_switchTo_68 ?_
    refine xw_iadd dy_switchTo_69 ?_
    refine xw_iconst dy_switchTo_70 ki_1 ?_
    refine xw_cPi dy_switchTo_71 (lk_y_switchTo_71 (xl_n hn (by decide)) rfl) ok_y_readWord (my_readWord hl hn hJ_s4) ⟨Nat.le_of_ble_eq_true rfl, Nat.le_of_ble_eq_true rfl⟩ ?_
    refine xw_iast dy_switchTo_74 (by decide) (xl_n hn (by decide)) rfl vc_2_8 cn_2 ?_
    exact k'
  refine xw_lw (fun s5 e_s5 => ?_)
  have hJ_s5 : yx_J s5 := by rw [e_s5]; exact (xj_i (fun _ => (yx_u (jy_readWord hJ_s4) (by decide))) (fun _ => hJ_s4))
  refine xw_iinc4 dy_switchTo_75 ic_2_1 (Nat.le_of_ble_eq_true rfl) rfl ?_
  refine xw_goto dy_switchTo_78 rfl ?_
  refine xw_iload4 dy_switchTo_40 ?_
  refine xw_bipush dy_switchTo_42 kb_8 ?_
  refine xw_icmp_ge_f dy_switchTo_44 rfl (by decide) ?_
  refine xw_aload0 dy_switchTo_47 ?_
  refine xw_cVi dy_switchTo_48 (lk_y_switchTo_48 (xl_n hn (by decide)) rfl) ok_y_isRaised (my_isRaised hl hn) ⟨Nat.le_of_ble_eq_true rfl, Nat.le_of_ble_eq_true rfl⟩ ?_
  refine xw_if_ne_mw (J := 75) (a := (xu_u (fy_readWord ((v2 + (14 : Int32)) + ((2 : Int32) * (3 : Int32))) (1 : Int32) s5).2 28 3 (fy_readWord ((v2 + (14 : Int32)) + ((2 : Int32) * (3 : Int32))) (1 : Int32) s5).1)) (b := s5) dy_switchTo_51 rfl (fun _ E' k' => ?_) (fun _ E' k' => ?_) ?_
  · exact k'
  · refine xw_aload0 dy_switchTo_54 ?_
    refine xw_getR dy_switchTo_55 fl_y_42 (xl_n hn (by decide)) rfl r_18_18 ?_
    refine xw_iload4 dy_switchTo_58 ?_
    refine xw_aload0 dy_switchTo_60 ?_
    refine xw_iload3 dy_switchTo_61 ?_
    refine xw_bipush dy_switchTo_62 kb_14 ?_
    refine xw_iadd dy_switchTo_64 ?_
    refine xw_iconst dy_switchTo_65 ki_2 ?_
    refine xw_iload4 dy_switchTo_66 ?_
    refine xw_imul dy_switchTo_68 ?_
    refine xw_iadd dy_switchTo_69 ?_
    refine xw_iconst dy_switchTo_70 ki_1 ?_
    refine xw_cPi dy_switchTo_71 (lk_y_switchTo_71 (xl_n hn (by decide)) rfl) ok_y_readWord (my_readWord hl hn hJ_s5) ⟨Nat.le_of_ble_eq_true rfl, Nat.le_of_ble_eq_true rfl⟩ ?_
    refine xw_iast dy_switchTo_74 (by decide) (xl_n hn (by decide)) rfl vc_3_8 cn_3 ?_
    exact k'
  refine xw_lw (fun s6 e_s6 => ?_)
  have hJ_s6 : yx_J s6 := by rw [e_s6]; exact (xj_i (fun _ => (yx_u (jy_readWord hJ_s5) (by decide))) (fun _ => hJ_s5))
  refine xw_iinc4 dy_switchTo_75 ic_3_1 (Nat.le_of_ble_eq_true rfl) rfl ?_
  refine xw_goto dy_switchTo_78 rfl ?_
  refine xw_iload4 dy_switchTo_40 ?_
  refine xw_bipush dy_switchTo_42 kb_8 ?_
  refine xw_icmp_ge_f dy_switchTo_44 rfl (by decide) ?_
  refine xw_aload0 dy_switchTo_47 ?_
  refine xw_cVi dy_switchTo_48 (lk_y_switchTo_48 (xl_n hn (by decide)) rfl) ok_y_isRaised (my_isRaised hl hn) ⟨Nat.le_of_ble_eq_true rfl, Nat.le_of_ble_eq_true rfl⟩ ?_
  refine xw_if_ne_mw (J := 75) (a := (xu_u (fy_readWord ((v2 + (14 : Int32)) + ((2 : Int32) * (4 : Int32))) (1 : Int32) s6).2 28 4 (fy_readWord ((v2 + (14 : Int32)) + ((2 : Int32) * (4 : Int32))) (1 : Int32) s6).1)) (b := s6) dy_switchTo_51 rfl (fun _ E' k' => ?_) (fun _ E' k' => ?_) ?_
  · exact k'
  · refine xw_aload0 dy_switchTo_54 ?_
    refine xw_getR dy_switchTo_55 fl_y_42 (xl_n hn (by decide)) rfl r_18_18 ?_
    refine xw_iload4 dy_switchTo_58 ?_
    refine xw_aload0 dy_switchTo_60 ?_
    refine xw_iload3 dy_switchTo_61 ?_
    refine xw_bipush dy_switchTo_62 kb_14 ?_
    refine xw_iadd dy_switchTo_64 ?_
    refine xw_iconst dy_switchTo_65 ki_2 ?_
    refine xw_iload4 dy_switchTo_66 ?_
    refine xw_imul dy_switchTo_68 ?_
    refine xw_iadd dy_switchTo_69 ?_
    refine xw_iconst dy_switchTo_70 ki_1 ?_
    refine xw_cPi dy_switchTo_71 (lk_y_switchTo_71 (xl_n hn (by decide)) rfl) ok_y_readWord (my_readWord hl hn hJ_s6) ⟨Nat.le_of_ble_eq_true rfl, Nat.le_of_ble_eq_true rfl⟩ ?_
    refine xw_iast dy_switchTo_74 (by decide) (xl_n hn (by decide)) rfl vc_4_8 cn_4 ?_
    exact k'
  refine xw_lw (fun s7 e_s7 => ?_)
  have hJ_s7 : yx_J s7 := by rw [e_s7]; exact (xj_i (fun _ => (yx_u (jy_readWord hJ_s6) (by decide))) (fun _ => hJ_s6))
  refine xw_iinc4 dy_switchTo_75 ic_4_1 (Nat.le_of_ble_eq_true rfl) rfl ?_
  refine xw_goto dy_switchTo_78 rfl ?_
  refine xw_iload4 dy_switchTo_40 ?_
  refine xw_bipush dy_switchTo_42 kb_8 ?_
  refine xw_icmp_ge_f dy_switchTo_44 rfl (by decide) ?_
  refine xw_aload0 dy_switchTo_47 ?_
  refine xw_cVi dy_switchTo_48 (lk_y_switchTo_48 (xl_n hn (by decide)) rfl) ok_y_isRaised (my_isRaised hl hn) ⟨Nat.le_of_ble_eq_true rfl, Nat.le_of_ble_eq_true rfl⟩ ?_
  refine xw_if_ne_mw (J := 75) (a := (xu_u (fy_readWord ((v2 + (14 : Int32)) + ((2 : Int32) * (5 : Int32))) (1 : Int32) s7).2 28 5 (fy_readWord ((v2 + (14 : Int32)) + ((2 : Int32) * (5 : Int32))) (1 : Int32) s7).1)) (b := s7) dy_switchTo_51 rfl (fun _ E' k' => ?_) (fun _ E' k' => ?_) ?_
  · exact k'
  · refine xw_aload0 dy_switchTo_54 ?_
    refine xw_getR dy_switchTo_55 fl_y_42 (xl_n hn (by decide)) rfl r_18_18 ?_
    refine xw_iload4 dy_switchTo_58 ?_
    refine xw_aload0 dy_switchTo_60 ?_
    refine xw_iload3 dy_switchTo_61 ?_
    refine xw_bipush dy_switchTo_62 kb_14 ?_
    refine xw_iadd dy_switchTo_64 ?_
    refine xw_iconst dy_switchTo_65 ki_2 ?_
    refine xw_iload4 dy_switchTo_66 ?_
    refine xw_imul dy_switchTo_68 ?_
    refine xw_iadd dy_switchTo_69 ?_
    refine xw_iconst dy_switchTo_70 ki_1 ?_
    refine xw_cPi dy_switchTo_71 (lk_y_switchTo_71 (xl_n hn (by decide)) rfl) ok_y_readWord (my_readWord hl hn hJ_s7) ⟨Nat.le_of_ble_eq_true rfl, Nat.le_of_ble_eq_true rfl⟩ ?_
    refine xw_iast dy_switchTo_74 (by decide) (xl_n hn (by decide)) rfl vc_5_8 cn_5 ?_
    exact k'
  refine xw_lw (fun s8 e_s8 => ?_)
  have hJ_s8 : yx_J s8 := by rw [e_s8]; exact (xj_i (fun _ => (yx_u (jy_readWord hJ_s7) (by decide))) (fun _ => hJ_s7))
  refine xw_iinc4 dy_switchTo_75 ic_5_1 (Nat.le_of_ble_eq_true rfl) rfl ?_
  refine xw_goto dy_switchTo_78 rfl ?_
  refine xw_iload4 dy_switchTo_40 ?_
  refine xw_bipush dy_switchTo_42 kb_8 ?_
  refine xw_icmp_ge_f dy_switchTo_44 rfl (by decide) ?_
  refine xw_aload0 dy_switchTo_47 ?_
  refine xw_cVi dy_switchTo_48 (lk_y_switchTo_48 (xl_n hn (by decide)) rfl) ok_y_isRaised (my_isRaised hl hn) ⟨Nat.le_of_ble_eq_true rfl, Nat.le_of_ble_eq_true rfl⟩ ?_
  refine xw_if_ne_mw (J := 75) (a := (xu_u (fy_readWord ((v2 + (14 : Int32)) + ((2 : Int32) * (6 : Int32))) (1 : Int32) s8).2 28 6 (fy_readWord ((v2 + (14 : Int32)) + ((2 : Int32) * (6 : Int32))) (1 : Int32) s8).1)) (b := s8) dy_switchTo_51 rfl (fun _ E' k' => ?_) (fun _ E' k' => ?_) ?_
  · exact k'
  · refine xw_aload0 dy_switchTo_54 ?_
    refine xw_getR dy_switchTo_55 fl_y_42 (xl_n hn (by decide)) rfl r_18_18 ?_
    refine xw_iload4 dy_switchTo_58 ?_
    refine xw_aload0 dy_switchTo_60 ?_
    refine xw_iload3 dy_switchTo_61 ?_
    refine xw_bipush dy_switchTo_62 kb_14 ?_
    refine xw_iadd dy_switchTo_64 ?_
    refine xw_iconst dy_switchTo_65 ki_2 ?_
    refine xw_iload4 dy_switchTo_66 ?_
    refine xw_imul dy_switchTo_68 ?_
    refine xw_iadd dy_switchTo_69 ?_
    refine xw_iconst dy_switchTo_70 ki_1 ?_
    refine xw_cPi dy_switchTo_71 (lk_y_switchTo_71 (xl_n hn (by decide)) rfl) ok_y_readWord (my_readWord hl hn hJ_s8) ⟨Nat.le_of_ble_eq_true rfl, Nat.le_of_ble_eq_true rfl⟩ ?_
    refine xw_iast dy_switchTo_74 (by decide) (xl_n hn (by decide)) rfl vc_6_8 cn_6 ?_
    exact k'
  refine xw_lw (fun s9 e_s9 => ?_)
  have hJ_s9 : yx_J s9 := by rw [e_s9]; exact (xj_i (fun _ => (yx_u (jy_readWord hJ_s8) (by decide))) (fun _ => hJ_s8))
  refine xw_iinc4 dy_switchTo_75 ic_6_1 (Nat.le_of_ble_eq_true rfl) rfl ?_
  refine xw_goto dy_switchTo_78 rfl ?_
  refine xw_iload4 dy_switchTo_40 ?_
  refine xw_bipush dy_switchTo_42 kb_8 ?_
  refine xw_icmp_ge_f dy_switchTo_44 rfl (by decide) ?_
  refine xw_aload0 dy_switchTo_47 ?_
  refine xw_cVi dy_switchTo_48 (lk_y_switchTo_48 (xl_n hn (by decide)) rfl) ok_y_isRaised (my_isRaised hl hn) ⟨Nat.le_of_ble_eq_true rfl, Nat.le_of_ble_eq_true rfl⟩ ?_
  refine xw_if_ne_mw (J := 75) (a := (xu_u (fy_readWord ((v2 + (14 : Int32)) + ((2 : Int32) * (7 : Int32))) (1 : Int32) s9).2 28 7 (fy_readWord ((v2 + (14 : Int32)) + ((2 : Int32) * (7 : Int32))) (1 : Int32) s9).1)) (b := s9) dy_switchTo_51 rfl (fun _ E' k' => ?_) (fun _ E' k' => ?_) ?_
  · exact k'
  · refine xw_aload0 dy_switchTo_54 ?_
    refine xw_getR dy_switchTo_55 fl_y_42 (xl_n hn (by decide)) rfl r_18_18 ?_
    refine xw_iload4 dy_switchTo_58 ?_
    refine xw_aload0 dy_switchTo_60 ?_
    refine xw_iload3 dy_switchTo_61 ?_
    refine xw_bipush dy_switchTo_62 kb_14 ?_
    refine xw_iadd dy_switchTo_64 ?_
    refine xw_iconst dy_switchTo_65 ki_2 ?_
    refine xw_iload4 dy_switchTo_66 ?_
    refine xw_imul dy_switchTo_68 ?_
    refine xw_iadd dy_switchTo_69 ?_
    refine xw_iconst dy_switchTo_70 ki_1 ?_
    refine xw_cPi dy_switchTo_71 (lk_y_switchTo_71 (xl_n hn (by decide)) rfl) ok_y_readWord (my_readWord hl hn hJ_s9) ⟨Nat.le_of_ble_eq_true rfl, Nat.le_of_ble_eq_true rfl⟩ ?_
    refine xw_iast dy_switchTo_74 (by decide) (xl_n hn (by decide)) rfl vc_7_8 cn_7 ?_
    exact k'
  refine xw_lw (fun s10 e_s10 => ?_)
  have hJ_s10 : yx_J s10 := by rw [e_s10]; exact (xj_i (fun _ => (yx_u (jy_readWord hJ_s9) (by decide))) (fun _ => hJ_s9))
  refine xw_iinc4 dy_switchTo_75 ic_7_1 (Nat.le_of_ble_eq_true rfl) rfl ?_
  refine xw_goto dy_switchTo_78 rfl ?_
  refine xw_iload4 dy_switchTo_40 ?_
  refine xw_bipush dy_switchTo_42 kb_8 ?_
  refine xw_icmp_ge_t dy_switchTo_44 rfl (by decide) ?_
  refine xw_aload0 dy_switchTo_81 ?_
  refine xw_getR dy_switchTo_82 fl_y_13 (xl_n hn (by decide)) rfl r_18_5 ?_
  refine xw_bipush dy_switchTo_85 kb_23 ?_
  refine xw_iald dy_switchTo_87 (xl_n hn (by decide)) rfl vc_23_26 cn_23 ?_
  refine xw_bipush dy_switchTo_88 kb_14 ?_
  refine xw_iadd dy_switchTo_90 ?_
  refine xw_li (fun v11 e_v11 => ?_)
  refine xw_istore4 dy_switchTo_91 (Nat.le_of_ble_eq_true rfl) rfl ?_
  refine xw_aload0 dy_switchTo_93 ?_
  refine xw_iload4 dy_switchTo_94 ?_
  refine xw_aload0 dy_switchTo_96 ?_
  refine xw_cVi dy_switchTo_97 (lk_y_switchTo_97 (xl_n hn (by decide)) rfl) ok_y_nextIp (my_nextIp hl hn) ⟨Nat.le_of_ble_eq_true rfl, Nat.le_of_ble_eq_true rfl⟩ ?_
  refine xw_cW dy_switchTo_100 (lk_y_switchTo_100 (xl_n hn (by decide)) rfl) ok_y_saveWord (my_saveWord hl hn hJ_s10) ⟨Nat.le_of_ble_eq_true rfl, Nat.le_of_ble_eq_true rfl⟩ ?_
  refine xw_lw (fun s12 e_s12 => ?_)
  have hJ_s12 : yx_J s12 := by rw [e_s12]; exact (jy_saveWord hJ_s10)
  refine xw_aload0 dy_switchTo_103 ?_
  refine xw_iload4 dy_switchTo_104 ?_
  refine xw_iconst dy_switchTo_106 ki_2 ?_
  refine xw_iadd dy_switchTo_107 ?_
  refine xw_iload2 dy_switchTo_108 ?_
  refine xw_iconst dy_switchTo_109 ki_2 ?_
  refine xw_icmp_ne_mi (J := 132) (a := ((s12 20 20) &&& (1 : Int32))) (b := (s12 20 20)) dy_switchTo_110 rfl (fun _ E' k' => ?_) (fun _ E' k' => ?_) ?_
  · refine xw_aload0 dy_switchTo_125 ?_
    refine xw_getR dy_switchTo_126 fl_y_13 (xl_n hn (by decide)) rfl r_18_5 ?_
    refine xw_bipush dy_switchTo_129 kb_20 ?_
    refine xw_iald dy_switchTo_131 (xl_n hn (by decide)) rfl vc_20_26 cn_20 ?_
    exact k'
  · refine xw_aload0 dy_switchTo_113 ?_
    refine xw_getR dy_switchTo_114 fl_y_13 (xl_n hn (by decide)) rfl r_18_5 ?_
    refine xw_bipush dy_switchTo_117 kb_20 ?_
    refine xw_iald dy_switchTo_119 (xl_n hn (by decide)) rfl vc_20_26 cn_20 ?_
    refine xw_iconst dy_switchTo_120 ki_1 ?_
    refine xw_iand dy_switchTo_121 ?_
    refine xw_goto dy_switchTo_122 rfl ?_
    exact k'
  refine xw_cW dy_switchTo_132 (lk_y_switchTo_132 (xl_n hn (by decide)) rfl) ok_y_saveWord (my_saveWord hl hn hJ_s12) ⟨Nat.le_of_ble_eq_true rfl, Nat.le_of_ble_eq_true rfl⟩ ?_
  refine xw_lw (fun s13 e_s13 => ?_)
  have hJ_s13 : yx_J s13 := by rw [e_s13]; exact (jy_saveWord hJ_s12)
  refine xw_aload0 dy_switchTo_135 ?_
  refine xw_iload4 dy_switchTo_136 ?_
  refine xw_iconst dy_switchTo_138 ki_4 ?_
  refine xw_iadd dy_switchTo_139 ?_
  refine xw_aload0 dy_switchTo_140 ?_
  refine xw_getR dy_switchTo_141 fl_y_13 (xl_n hn (by decide)) rfl r_18_5 ?_
  refine xw_bipush dy_switchTo_144 kb_18 ?_
  refine xw_iald dy_switchTo_146 (xl_n hn (by decide)) rfl vc_18_26 cn_18 ?_
  refine xw_cW dy_switchTo_147 (lk_y_switchTo_147 (xl_n hn (by decide)) rfl) ok_y_saveWord (my_saveWord hl hn hJ_s13) ⟨Nat.le_of_ble_eq_true rfl, Nat.le_of_ble_eq_true rfl⟩ ?_
  refine xw_lw (fun s14 e_s14 => ?_)
  have hJ_s14 : yx_J s14 := by rw [e_s14]; exact (jy_saveWord hJ_s13)
  refine xw_aload0 dy_switchTo_150 ?_
  refine xw_iload4 dy_switchTo_151 ?_
  refine xw_bipush dy_switchTo_153 kb_6 ?_
  refine xw_iadd dy_switchTo_155 ?_
  refine xw_aload0 dy_switchTo_156 ?_
  refine xw_getR dy_switchTo_157 fl_y_13 (xl_n hn (by decide)) rfl r_18_5 ?_
  refine xw_iconst dy_switchTo_160 ki_0 ?_
  refine xw_iald dy_switchTo_161 (xl_n hn (by decide)) rfl vc_0_26 cn_0 ?_
  refine xw_cW dy_switchTo_162 (lk_y_switchTo_162 (xl_n hn (by decide)) rfl) ok_y_saveWord (my_saveWord hl hn hJ_s14) ⟨Nat.le_of_ble_eq_true rfl, Nat.le_of_ble_eq_true rfl⟩ ?_
  refine xw_lw (fun s15 e_s15 => ?_)
  have hJ_s15 : yx_J s15 := by rw [e_s15]; exact (jy_saveWord hJ_s14)
  refine xw_aload0 dy_switchTo_165 ?_
  refine xw_iload4 dy_switchTo_166 ?_
  refine xw_bipush dy_switchTo_168 kb_8 ?_
  refine xw_iadd dy_switchTo_170 ?_
  refine xw_aload0 dy_switchTo_171 ?_
  refine xw_getR dy_switchTo_172 fl_y_13 (xl_n hn (by decide)) rfl r_18_5 ?_
  refine xw_iconst dy_switchTo_175 ki_1 ?_
  refine xw_iald dy_switchTo_176 (xl_n hn (by decide)) rfl vc_1_26 cn_1 ?_
  refine xw_cW dy_switchTo_177 (lk_y_switchTo_177 (xl_n hn (by decide)) rfl) ok_y_saveWord (my_saveWord hl hn hJ_s15) ⟨Nat.le_of_ble_eq_true rfl, Nat.le_of_ble_eq_true rfl⟩ ?_
  refine xw_lw (fun s16 e_s16 => ?_)
  have hJ_s16 : yx_J s16 := by rw [e_s16]; exact (jy_saveWord hJ_s15)
  refine xw_aload0 dy_switchTo_180 ?_
  refine xw_iload4 dy_switchTo_181 ?_
  refine xw_bipush dy_switchTo_183 kb_10 ?_
  refine xw_iadd dy_switchTo_185 ?_
  refine xw_aload0 dy_switchTo_186 ?_
  refine xw_getR dy_switchTo_187 fl_y_13 (xl_n hn (by decide)) rfl r_18_5 ?_
  refine xw_iconst dy_switchTo_190 ki_2 ?_
  refine xw_iald dy_switchTo_191 (xl_n hn (by decide)) rfl vc_2_26 cn_2 ?_
  refine xw_cW dy_switchTo_192 (lk_y_switchTo_192 (xl_n hn (by decide)) rfl) ok_y_saveWord (my_saveWord hl hn hJ_s16) ⟨Nat.le_of_ble_eq_true rfl, Nat.le_of_ble_eq_true rfl⟩ ?_
  refine xw_lw (fun s17 e_s17 => ?_)
  have hJ_s17 : yx_J s17 := by rw [e_s17]; exact (jy_saveWord hJ_s16)
  refine xw_aload0 dy_switchTo_195 ?_
  refine xw_iload4 dy_switchTo_196 ?_
  refine xw_bipush dy_switchTo_198 kb_12 ?_
  refine xw_iadd dy_switchTo_200 ?_
  refine xw_aload0 dy_switchTo_201 ?_
  refine xw_getR dy_switchTo_202 fl_y_13 (xl_n hn (by decide)) rfl r_18_5 ?_
  refine xw_bipush dy_switchTo_205 kb_21 ?_
  refine xw_iald dy_switchTo_207 (xl_n hn (by decide)) rfl vc_21_26 cn_21 ?_
  refine xw_cW dy_switchTo_208 (lk_y_switchTo_208 (xl_n hn (by decide)) rfl) ok_y_saveWord (my_saveWord hl hn hJ_s17) ⟨Nat.le_of_ble_eq_true rfl, Nat.le_of_ble_eq_true rfl⟩ ?_
  refine xw_lw (fun s18 e_s18 => ?_)
  have hJ_s18 : yx_J s18 := by rw [e_s18]; exact (jy_saveWord hJ_s17)
  refine xw_aload0 dy_switchTo_211 ?_
  refine xw_iload4 dy_switchTo_212 ?_
  refine xw_bipush dy_switchTo_214 kb_14 ?_
  refine xw_iadd dy_switchTo_216 ?_
  refine xw_aload0 dy_switchTo_217 ?_
  refine xw_getR dy_switchTo_218 fl_y_13 (xl_n hn (by decide)) rfl r_18_5 ?_
  refine xw_bipush dy_switchTo_221 kb_24 ?_
  refine xw_iald dy_switchTo_223 (xl_n hn (by decide)) rfl vc_24_26 cn_24 ?_
  refine xw_cW dy_switchTo_224 (lk_y_switchTo_224 (xl_n hn (by decide)) rfl) ok_y_saveWord (my_saveWord hl hn hJ_s18) ⟨Nat.le_of_ble_eq_true rfl, Nat.le_of_ble_eq_true rfl⟩ ?_
  refine xw_lw (fun s19 e_s19 => ?_)
  have hJ_s19 : yx_J s19 := by rw [e_s19]; exact (jy_saveWord hJ_s18)
  refine xw_iload2 dy_switchTo_227 ?_
  refine xw_iconst dy_switchTo_228 ki_1 ?_
  refine xw_icmp_eq_mw (J := 257) (a := s19) (b := (if (fy_isNull (s19 20 22) s19) = 0 then (fy_setKind (s19 20 22) (5 : Int32) s19) else s19)) dy_switchTo_229 rfl (fun _ E' k' => ?_) (fun _ E' k' => ?_) ?_
  · exact k'
  · refine xw_aload0 dy_switchTo_232 ?_
    refine xw_getR dy_switchTo_233 fl_y_13 (xl_n hn (by decide)) rfl r_18_5 ?_
    refine xw_bipush dy_switchTo_236 kb_22 ?_
    refine xw_iald dy_switchTo_238 (xl_n hn (by decide)) rfl vc_22_26 cn_22 ?_
    refine xw_cVi dy_switchTo_239 (lk_y_switchTo_239) ok_y_isNull (my_isNull hl hn) ⟨Nat.le_of_ble_eq_true rfl, Nat.le_of_ble_eq_true rfl⟩ ?_
    refine xw_if_ne_mw (J := 257) (a := (fy_setKind (s19 20 22) (5 : Int32) s19)) (b := s19) dy_switchTo_242 rfl (fun _ E' k' => ?_) (fun _ E' k' => ?_) ?_
    · exact k'
    · refine xw_aload0 dy_switchTo_245 ?_
      refine xw_aload0 dy_switchTo_246 ?_
      refine xw_getR dy_switchTo_247 fl_y_13 (xl_n hn (by decide)) rfl r_18_5 ?_
      refine xw_bipush dy_switchTo_250 kb_22 ?_
      refine xw_iald dy_switchTo_252 (xl_n hn (by decide)) rfl vc_22_26 cn_22 ?_
      refine xw_iconst dy_switchTo_253 ki_5 ?_
      refine xw_cW dy_switchTo_254 (lk_y_switchTo_254 (xl_n hn (by decide)) rfl) ok_y_setKind (my_setKind hl hn hJ_s19) ⟨Nat.le_of_ble_eq_true rfl, Nat.le_of_ble_eq_true rfl⟩ ?_
      exact k'
    exact k'
  refine xw_lw (fun s20 e_s20 => ?_)
  have hJ_s20 : yx_J s20 := by rw [e_s20]; exact (xj_i (fun _ => hJ_s19) (fun _ => (xj_i (fun _ => (jy_setKind hJ_s19)) (fun _ => hJ_s19))))
  refine xw_iload2 dy_switchTo_257 ?_
  refine xw_iconst dy_switchTo_258 ki_2 ?_
  refine xw_icmp_eq_mw (J := 269) (a := s20) (b := (fy_setKind a1 (6 : Int32) s20)) dy_switchTo_259 rfl (fun _ E' k' => ?_) (fun _ E' k' => ?_) ?_
  · exact k'
  · refine xw_aload0 dy_switchTo_262 ?_
    refine xw_iload1 dy_switchTo_263 ?_
    refine xw_bipush dy_switchTo_264 kb_6 ?_
    refine xw_cW dy_switchTo_266 (lk_y_switchTo_266 (xl_n hn (by decide)) rfl) ok_y_setKind (my_setKind hl hn hJ_s20) ⟨Nat.le_of_ble_eq_true rfl, Nat.le_of_ble_eq_true rfl⟩ ?_
    exact k'
  refine xw_lw (fun s21 e_s21 => ?_)
  have hJ_s21 : yx_J s21 := by rw [e_s21]; exact (xj_i (fun _ => hJ_s20) (fun _ => (jy_setKind hJ_s20)))
  refine xw_iload2 dy_switchTo_269 ?_
  refine xw_iconst dy_switchTo_270 ki_1 ?_
  refine xw_icmp_ne_mw (J := 286) (a := (fy_saveWord v2 (s21 20 22) s21)) (b := s21) dy_switchTo_271 rfl (fun _ E' k' => ?_) (fun _ E' k' => ?_) ?_
  · exact k'
  · refine xw_aload0 dy_switchTo_274 ?_
    refine xw_iload3 dy_switchTo_275 ?_
    refine xw_aload0 dy_switchTo_276 ?_
    refine xw_getR dy_switchTo_277 fl_y_13 (xl_n hn (by decide)) rfl r_18_5 ?_
    refine xw_bipush dy_switchTo_280 kb_22 ?_
    refine xw_iald dy_switchTo_282 (xl_n hn (by decide)) rfl vc_22_26 cn_22 ?_
    refine xw_cW dy_switchTo_283 (lk_y_switchTo_283 (xl_n hn (by decide)) rfl) ok_y_saveWord (my_saveWord hl hn hJ_s21) ⟨Nat.le_of_ble_eq_true rfl, Nat.le_of_ble_eq_true rfl⟩ ?_
    exact k'
  refine xw_lw (fun s22 e_s22 => ?_)
  have hJ_s22 : yx_J s22 := by rw [e_s22]; exact (xj_i (fun _ => (jy_saveWord hJ_s21)) (fun _ => hJ_s21))
  refine xw_aload0 dy_switchTo_286 ?_
  refine xw_cVi dy_switchTo_287 (lk_y_switchTo_287 (xl_n hn (by decide)) rfl) ok_y_isRaised (my_isRaised hl hn) ⟨Nat.le_of_ble_eq_true rfl, Nat.le_of_ble_eq_true rfl⟩ ?_
  refine xw_if_eq' dy_switchTo_290 rfl (fun h23 => ?_) (fun h23 => ?_)
  · refine xw_aload0 dy_switchTo_294 ?_
    refine xw_iconst dy_switchTo_295 ki_1 ?_
    refine xw_putZ dy_switchTo_296 fl_y_161 nf_5_10 (by decide) (xl_n hn (by decide)) rfl ?_
    refine xw_lw (fun s24 e_s24 => ?_)
    have hJ_s24 : yx_J s24 := by rw [e_s24]; exact (yx_u hJ_s22 (by decide))
    refine xw_aload0 dy_switchTo_299 ?_
    refine xw_iconst dy_switchTo_300 ki_1 ?_
    refine xw_putZ dy_switchTo_301 fl_y_109 nf_5_11 (by decide) (xl_n hn (by decide)) rfl ?_
    refine xw_lw (fun s25 e_s25 => ?_)
    have hJ_s25 : yx_J s25 := by rw [e_s25]; exact (yx_u hJ_s24 (by decide))
    refine xw_aload0 dy_switchTo_304 ?_
    refine xw_getR dy_switchTo_305 fl_y_13 (xl_n hn (by decide)) rfl r_18_5 ?_
    refine xw_bipush dy_switchTo_308 kb_22 ?_
    refine xw_iload1 dy_switchTo_310 ?_
    refine xw_cVi dy_switchTo_311 (lk_y_switchTo_311) ok_y_codeOf (my_codeOf hl hn) ⟨Nat.le_of_ble_eq_true rfl, Nat.le_of_ble_eq_true rfl⟩ ?_
    refine xw_iast dy_switchTo_314 (by decide) (xl_n hn (by decide)) rfl vc_22_26 cn_22 ?_
    refine xw_lw (fun s26 e_s26 => ?_)
    have hJ_s26 : yx_J s26 := by rw [e_s26]; exact (yx_u hJ_s25 (by decide))
    refine xw_aload0 dy_switchTo_315 ?_
    refine xw_getR dy_switchTo_316 fl_y_13 (xl_n hn (by decide)) rfl r_18_5 ?_
    refine xw_bipush dy_switchTo_319 kb_23 ?_
    refine xw_iload3 dy_switchTo_321 ?_
    refine xw_iast dy_switchTo_322 (by decide) (xl_n hn (by decide)) rfl vc_23_26 cn_23 ?_
    refine xw_lw (fun s27 e_s27 => ?_)
    have hJ_s27 : yx_J s27 := by rw [e_s27]; exact (yx_u hJ_s26 (by decide))
    refine xw_aload0 dy_switchTo_323 ?_
    refine xw_getR dy_switchTo_324 fl_y_13 (xl_n hn (by decide)) rfl r_18_5 ?_
    refine xw_bipush dy_switchTo_327 kb_19 ?_
    refine xw_aload0 dy_switchTo_329 ?_
    refine xw_getR dy_switchTo_330 fl_y_42 (xl_n hn (by decide)) rfl r_18_18 ?_
    refine xw_iconst dy_switchTo_333 ki_0 ?_
    refine xw_iald dy_switchTo_334 (xl_n hn (by decide)) rfl vc_0_8 cn_0 ?_
    refine xw_iast dy_switchTo_335 (by decide) (xl_n hn (by decide)) rfl vc_19_26 cn_19 ?_
    refine xw_lw (fun s28 e_s28 => ?_)
    have hJ_s28 : yx_J s28 := by rw [e_s28]; exact (yx_u hJ_s27 (by decide))
    refine xw_aload0 dy_switchTo_336 ?_
    refine xw_getR dy_switchTo_337 fl_y_13 (xl_n hn (by decide)) rfl r_18_5 ?_
    refine xw_bipush dy_switchTo_340 kb_20 ?_
    refine xw_aload0 dy_switchTo_342 ?_
    refine xw_getR dy_switchTo_343 fl_y_42 (xl_n hn (by decide)) rfl r_18_18 ?_
    refine xw_iconst dy_switchTo_346 ki_1 ?_
    refine xw_iald dy_switchTo_347 (xl_n hn (by decide)) rfl vc_1_8 cn_1 ?_
    refine xw_iconst dy_switchTo_348 ki_3 ?_
    refine xw_iand dy_switchTo_349 ?_
    refine xw_iload2 dy_switchTo_350 ?_
    refine xw_iconst dy_switchTo_351 ki_1 ?_
    refine xw_icmp_ne_mi (J := 360) (a := (2 : Int32)) (b := (0 : Int32)) dy_switchTo_352 rfl (fun _ E' k' => ?_) (fun _ E' k' => ?_) ?_
    · refine xw_iconst dy_switchTo_359 ki_0 ?_
      exact k'
    · refine xw_iconst dy_switchTo_355 ki_2 ?_
      refine xw_goto dy_switchTo_356 rfl ?_
      exact k'
    refine xw_ior dy_switchTo_360 ?_
    refine xw_iast dy_switchTo_361 (by decide) (xl_n hn (by decide)) rfl vc_20_26 cn_20 ?_
    refine xw_lw (fun s29 e_s29 => ?_)
    have hJ_s29 : yx_J s29 := by rw [e_s29]; exact (yx_u hJ_s28 (by decide))
    refine xw_aload0 dy_switchTo_362 ?_
    refine xw_getR dy_switchTo_363 fl_y_13 (xl_n hn (by decide)) rfl r_18_5 ?_
    refine xw_bipush dy_switchTo_366 kb_18 ?_
    refine xw_aload0 dy_switchTo_368 ?_
    refine xw_getR dy_switchTo_369 fl_y_42 (xl_n hn (by decide)) rfl r_18_18 ?_
    refine xw_iconst dy_switchTo_372 ki_2 ?_
    refine xw_iald dy_switchTo_373 (xl_n hn (by decide)) rfl vc_2_8 cn_2 ?_
    refine xw_iast dy_switchTo_374 (by decide) (xl_n hn (by decide)) rfl vc_18_26 cn_18 ?_
    refine xw_lw (fun s30 e_s30 => ?_)
    have hJ_s30 : yx_J s30 := by rw [e_s30]; exact (yx_u hJ_s29 (by decide))
    refine xw_aload0 dy_switchTo_375 ?_
    refine xw_getR dy_switchTo_376 fl_y_13 (xl_n hn (by decide)) rfl r_18_5 ?_
    refine xw_bipush dy_switchTo_379 kb_21 ?_
    refine xw_aload0 dy_switchTo_381 ?_
    refine xw_getR dy_switchTo_382 fl_y_42 (xl_n hn (by decide)) rfl r_18_18 ?_
    refine xw_bipush dy_switchTo_385 kb_6 ?_
    refine xw_iald dy_switchTo_387 (xl_n hn (by decide)) rfl vc_6_8 cn_6 ?_
    refine xw_iconst dy_switchTo_388 ki_3 ?_
    refine xw_iand dy_switchTo_389 ?_
    refine xw_iast dy_switchTo_390 (by decide) (xl_n hn (by decide)) rfl vc_21_26 cn_21 ?_
    refine xw_lw (fun s31 e_s31 => ?_)
    have hJ_s31 : yx_J s31 := by rw [e_s31]; exact (yx_u hJ_s30 (by decide))
    refine xw_aload0 dy_switchTo_391 ?_
    refine xw_getR dy_switchTo_392 fl_y_13 (xl_n hn (by decide)) rfl r_18_5 ?_
    refine xw_bipush dy_switchTo_395 kb_24 ?_
    refine xw_aload0 dy_switchTo_397 ?_
    refine xw_getR dy_switchTo_398 fl_y_42 (xl_n hn (by decide)) rfl r_18_18 ?_
    refine xw_bipush dy_switchTo_401 kb_7 ?_
    refine xw_iald dy_switchTo_403 (xl_n hn (by decide)) rfl vc_7_8 cn_7 ?_
    refine xw_bipush dy_switchTo_404 kb_31 ?_
    refine xw_iand dy_switchTo_406 ?_
    refine xw_iast dy_switchTo_407 (by decide) (xl_n hn (by decide)) rfl vc_24_26 cn_24 ?_
    refine xw_lw (fun s32 e_s32 => ?_)
    have hJ_s32 : yx_J s32 := by rw [e_s32]; exact (yx_p hJ_s31)
    refine xw_aload0 dy_switchTo_408 ?_
    refine xw_getR dy_switchTo_409 fl_y_42 (xl_n hn (by decide)) rfl r_18_18 ?_
    refine xw_iconst dy_switchTo_412 ki_4 ?_
    refine xw_iald dy_switchTo_413 (xl_n hn (by decide)) rfl vc_4_8 cn_4 ?_
    refine xw_li (fun v33 e_v33 => ?_)
    refine xw_istore5 dy_switchTo_414 (Nat.le_of_ble_eq_true rfl) rfl ?_
    refine xw_aload0 dy_switchTo_416 ?_
    refine xw_getR dy_switchTo_417 fl_y_42 (xl_n hn (by decide)) rfl r_18_18 ?_
    refine xw_iconst dy_switchTo_420 ki_5 ?_
    refine xw_iald dy_switchTo_421 (xl_n hn (by decide)) rfl vc_5_8 cn_5 ?_
    refine xw_li (fun v34 e_v34 => ?_)
    refine xw_istore6 dy_switchTo_422 (Nat.le_of_ble_eq_true rfl) rfl ?_
    refine xw_aload0 dy_switchTo_424 ?_
    refine xw_iconst dy_switchTo_425 ki_0 ?_
    refine xw_aload0 dy_switchTo_426 ?_
    refine xw_getR dy_switchTo_427 fl_y_42 (xl_n hn (by decide)) rfl r_18_18 ?_
    refine xw_iconst dy_switchTo_430 ki_3 ?_
    refine xw_iald dy_switchTo_431 (xl_n hn (by decide)) rfl vc_3_8 cn_3 ?_
    refine xw_cW dy_switchTo_432 (lk_y_switchTo_432 (xl_n hn (by decide)) rfl) ok_y_take (my_take hl hn vc_0_3 hJ_s32) ⟨Nat.le_of_ble_eq_true rfl, Nat.le_of_ble_eq_true rfl⟩ ?_
    refine xw_lw (fun s35 e_s35 => ?_)
    have hJ_s35 : yx_J s35 := by rw [e_s35]; exact (jy_take vc_0_3 hJ_s32)
    refine xw_aload0 dy_switchTo_435 ?_
    refine xw_iconst dy_switchTo_436 ki_1 ?_
    refine xw_iload5 dy_switchTo_437 ?_
    refine xw_cW dy_switchTo_439 (lk_y_switchTo_439 (xl_n hn (by decide)) rfl) ok_y_take (my_take hl hn vc_1_3 hJ_s35) ⟨Nat.le_of_ble_eq_true rfl, Nat.le_of_ble_eq_true rfl⟩ ?_
    refine xw_lw (fun s36 e_s36 => ?_)
    have hJ_s36 : yx_J s36 := by rw [e_s36]; exact (jy_take vc_1_3 hJ_s35)
    refine xw_aload0 dy_switchTo_442 ?_
    refine xw_iconst dy_switchTo_443 ki_2 ?_
    refine xw_iload6 dy_switchTo_444 ?_
    refine xw_cW dy_switchTo_446 (lk_y_switchTo_446 (xl_n hn (by decide)) rfl) ok_y_take (my_take hl hn vc_2_3 hJ_s36) ⟨Nat.le_of_ble_eq_true rfl, Nat.le_of_ble_eq_true rfl⟩ ?_
    refine xw_lw (fun s37 e_s37 => ?_)
    have hJ_s37 : yx_J s37 := by rw [e_s37]; exact (jy_take vc_2_3 hJ_s36)
    exact xw_vret dy_switchTo_449 rfl
  · exact xw_vret dy_switchTo_293 rfl
theorem jy_switchTo {a1 : Int32} {a2 : Int32} {σ : xs_S} (hJ : yx_J σ) : yx_J (fy_switchTo a1 a2 σ) := by
  unfold fy_switchTo
  refine xj_wl (fun s1 e_s1 => ?_)
  have hJ_s1 : yx_J s1 := by rw [e_s1]; exact (xj_i (fun _ => hJ) (fun _ => (jy_raise hJ)))
  refine xj_wl (fun v2 e_v2 => ?_)
  refine xj_wl (fun s3 e_s3 => ?_)
  have hJ_s3 : yx_J s3 := by rw [e_s3]; exact (xj_i (fun _ => (yx_u (jy_readWord hJ_s1) (by decide))) (fun _ => hJ_s1))
  refine xj_wl (fun s4 e_s4 => ?_)
  have hJ_s4 : yx_J s4 := by rw [e_s4]; exact (xj_i (fun _ => (yx_u (jy_readWord hJ_s3) (by decide))) (fun _ => hJ_s3))
  refine xj_wl (fun s5 e_s5 => ?_)
  have hJ_s5 : yx_J s5 := by rw [e_s5]; exact (xj_i (fun _ => (yx_u (jy_readWord hJ_s4) (by decide))) (fun _ => hJ_s4))
  refine xj_wl (fun s6 e_s6 => ?_)
  have hJ_s6 : yx_J s6 := by rw [e_s6]; exact (xj_i (fun _ => (yx_u (jy_readWord hJ_s5) (by decide))) (fun _ => hJ_s5))
  refine xj_wl (fun s7 e_s7 => ?_)
  have hJ_s7 : yx_J s7 := by rw [e_s7]; exact (xj_i (fun _ => (yx_u (jy_readWord hJ_s6) (by decide))) (fun _ => hJ_s6))
  refine xj_wl (fun s8 e_s8 => ?_)
  have hJ_s8 : yx_J s8 := by rw [e_s8]; exact (xj_i (fun _ => (yx_u (jy_readWord hJ_s7) (by decide))) (fun _ => hJ_s7))
  refine xj_wl (fun s9 e_s9 => ?_)
  have hJ_s9 : yx_J s9 := by rw [e_s9]; exact (xj_i (fun _ => (yx_u (jy_readWord hJ_s8) (by decide))) (fun _ => hJ_s8))
  refine xj_wl (fun s10 e_s10 => ?_)
  have hJ_s10 : yx_J s10 := by rw [e_s10]; exact (xj_i (fun _ => (yx_u (jy_readWord hJ_s9) (by decide))) (fun _ => hJ_s9))
  refine xj_wl (fun v11 e_v11 => ?_)
  refine xj_wl (fun s12 e_s12 => ?_)
  have hJ_s12 : yx_J s12 := by rw [e_s12]; exact (jy_saveWord hJ_s10)
  refine xj_wl (fun s13 e_s13 => ?_)
  have hJ_s13 : yx_J s13 := by rw [e_s13]; exact (jy_saveWord hJ_s12)
  refine xj_wl (fun s14 e_s14 => ?_)
  have hJ_s14 : yx_J s14 := by rw [e_s14]; exact (jy_saveWord hJ_s13)
  refine xj_wl (fun s15 e_s15 => ?_)
  have hJ_s15 : yx_J s15 := by rw [e_s15]; exact (jy_saveWord hJ_s14)
  refine xj_wl (fun s16 e_s16 => ?_)
  have hJ_s16 : yx_J s16 := by rw [e_s16]; exact (jy_saveWord hJ_s15)
  refine xj_wl (fun s17 e_s17 => ?_)
  have hJ_s17 : yx_J s17 := by rw [e_s17]; exact (jy_saveWord hJ_s16)
  refine xj_wl (fun s18 e_s18 => ?_)
  have hJ_s18 : yx_J s18 := by rw [e_s18]; exact (jy_saveWord hJ_s17)
  refine xj_wl (fun s19 e_s19 => ?_)
  have hJ_s19 : yx_J s19 := by rw [e_s19]; exact (jy_saveWord hJ_s18)
  refine xj_wl (fun s20 e_s20 => ?_)
  have hJ_s20 : yx_J s20 := by rw [e_s20]; exact (xj_i (fun _ => hJ_s19) (fun _ => (xj_i (fun _ => (jy_setKind hJ_s19)) (fun _ => hJ_s19))))
  refine xj_wl (fun s21 e_s21 => ?_)
  have hJ_s21 : yx_J s21 := by rw [e_s21]; exact (xj_i (fun _ => hJ_s20) (fun _ => (jy_setKind hJ_s20)))
  refine xj_wl (fun s22 e_s22 => ?_)
  have hJ_s22 : yx_J s22 := by rw [e_s22]; exact (xj_i (fun _ => (jy_saveWord hJ_s21)) (fun _ => hJ_s21))
  refine xj_wf (fun h23 => ?_) (fun h23 => ?_)
  · refine xj_wl (fun s24 e_s24 => ?_)
    have hJ_s24 : yx_J s24 := by rw [e_s24]; exact (yx_u hJ_s22 (by decide))
    refine xj_wl (fun s25 e_s25 => ?_)
    have hJ_s25 : yx_J s25 := by rw [e_s25]; exact (yx_u hJ_s24 (by decide))
    refine xj_wl (fun s26 e_s26 => ?_)
    have hJ_s26 : yx_J s26 := by rw [e_s26]; exact (yx_u hJ_s25 (by decide))
    refine xj_wl (fun s27 e_s27 => ?_)
    have hJ_s27 : yx_J s27 := by rw [e_s27]; exact (yx_u hJ_s26 (by decide))
    refine xj_wl (fun s28 e_s28 => ?_)
    have hJ_s28 : yx_J s28 := by rw [e_s28]; exact (yx_u hJ_s27 (by decide))
    refine xj_wl (fun s29 e_s29 => ?_)
    have hJ_s29 : yx_J s29 := by rw [e_s29]; exact (yx_u hJ_s28 (by decide))
    refine xj_wl (fun s30 e_s30 => ?_)
    have hJ_s30 : yx_J s30 := by rw [e_s30]; exact (yx_u hJ_s29 (by decide))
    refine xj_wl (fun s31 e_s31 => ?_)
    have hJ_s31 : yx_J s31 := by rw [e_s31]; exact (yx_u hJ_s30 (by decide))
    refine xj_wl (fun s32 e_s32 => ?_)
    have hJ_s32 : yx_J s32 := by rw [e_s32]; exact (yx_p hJ_s31)
    refine xj_wl (fun v33 e_v33 => ?_)
    refine xj_wl (fun v34 e_v34 => ?_)
    refine xj_wl (fun s35 e_s35 => ?_)
    have hJ_s35 : yx_J s35 := by rw [e_s35]; exact (jy_take vc_0_3 hJ_s32)
    refine xj_wl (fun s36 e_s36 => ?_)
    have hJ_s36 : yx_J s36 := by rw [e_s36]; exact (jy_take vc_1_3 hJ_s35)
    refine xj_wl (fun s37 e_s37 => ?_)
    have hJ_s37 : yx_J s37 := by rw [e_s37]; exact (jy_take vc_2_3 hJ_s36)
    exact hJ_s37
  · exact hJ_s22
