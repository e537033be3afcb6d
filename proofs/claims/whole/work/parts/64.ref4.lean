def fy_deliver (a1 : Int32) (a2 : Int32) (a3 : Int32) (σ : xs_S) : xs_S := xl_l ((((4 : Int32) * a1) + (2 : Int32))) (fun v1 => xl_l ((if a1 < (16 : Int32) then (fy_readDescriptor ((σ 18 4) + ((8 : Int32) * a1)) (0 : Int32) σ) else (fy_raise (13 : Int32) v1 σ))) (fun s2 => (if (fy_isRaised s2) = 0 then xl_l ((s2 24 0)) (fun v4 => xl_l ((if v4 = (8 : Int32) then (if a2 = 0 then (if (s2 26 0) = 0 then (fy_raise (11 : Int32) v1 s2) else s2) else (if (s2 20 21) ≤ (s2 25 0) then (if (s2 26 0) = 0 then (fy_raise (11 : Int32) v1 s2) else s2) else (fy_raise (13 : Int32) v1 s2))) else (if v4 = (9 : Int32) then (if a2 = 0 then (if (s2 26 0) = 0 then (fy_raise (11 : Int32) v1 s2) else s2) else (if (s2 20 21) ≤ (s2 25 0) then (if (s2 26 0) = 0 then (fy_raise (11 : Int32) v1 s2) else s2) else (fy_raise (13 : Int32) v1 s2))) else (fy_raise (13 : Int32) v1 s2)))) (fun s5 => (if (fy_isRaised s5) = 0 then xl_l ((fy_through (s5 23 0) (s5 22 0) (0 : Int32) (0 : Int32) (1 : Int32) (if a2 = 0 then (s5 20 19) else (fy_nextIp s5)) s5)) (fun s7 => xl_l ((if a1 = (8 : Int32) then (1 : Int32) else (if a1 < (10 : Int32) then (0 : Int32) else (if (14 : Int32) < a1 then (0 : Int32) else (1 : Int32))))) (fun v8 => xl_l ((if a2 = 0 then (if v8 = 0 then s7 else (fy_pushWord a3 s7)) else s7)) (fun s9 => (if (fy_isRaised s9) = 0 then xl_l ((xu_u s9 20 20 ((s9 20 20) &&& (if v4 = (8 : Int32) then (0 : Int32) else (1 : Int32))))) (fun s11 => s11) else s9)))) else s5))) else s2)))
set_option maxRecDepth 100000 in
set_option maxHeartbeats 4000000 in
theorem my_deliver {l : Launch} {N n u : Nat} {a1 : Int32} {a2 : Int32} {a3 : Int32} {σ : xs_S} (hl : l.stackTraces = false) (hn : 29 ≤ n) (hJ : yx_J σ) : xm_m (xk_k N) l ty_deliver [.ref 18, .int a1, .int a2, .int a3] (n, u, σ, xr_0) (xe_w n u (fy_deliver a1 a2 a3 σ)) := by
  refine xm_of hl ok_y_deliver (Nat.le_of_ble_eq_true rfl) ?_
  show xw_w (xk_k N) l ty_deliver 0 [some (.ref 18), some (.int a1), some (.int a2), some (.int a3), none, none, none] [] (n, u, σ, xr_0) (xe_w n u (fy_deliver a1 a2 a3 σ))
  unfold fy_deliver
  refine xw_iconst dy_deliver_0 ki_4 ?_
  refine xw_iload1 dy_deliver_1 ?_
  refine xw_imul dy_deliver_2 ?_
  refine xw_iconst dy_deliver_3 ki_2 ?_
  refine xw_iadd dy_deliver_4 ?_
  refine xw_li (fun v1 e_v1 => ?_)
  refine xw_istore4 dy_deliver_5 (Nat.le_of_ble_eq_true rfl) rfl ?_
  refine xw_iload1 dy_deliver_7 ?_
  refine xw_bipush dy_deliver_8 kb_16 ?_
  refine xw_icmp_lt_mw (J := 38) (a := (fy_readDescriptor ((σ 18 4) + ((8 : Int32) * a1)) (0 : Int32) σ)) (b := (fy_raise (13 : Int32) v1 σ)) dy_deliver_10 rfl (fun _ E' k' => ?_) (fun _ E' k' => ?_) ?_
  · refine xw_aload0 dy_deliver_24 ?_
    refine xw_aload0 dy_deliver_25 ?_
    refine xw_getI dy_deliver_26 fl_y_152 (by decide) (xl_n hn (by decide)) rfl ?_
    refine xw_bipush dy_deliver_29 kb_8 ?_
    refine xw_iload1 dy_deliver_31 ?_
    refine xw_imul dy_deliver_32 ?_
    refine xw_iadd dy_deliver_33 ?_
    refine xw_iconst dy_deliver_34 ki_0 ?_
    refine xw_cW dy_deliver_35 (lk_y_deliver_35 (xl_n hn (by decide)) rfl) ok_y_readDescriptor (my_readDescriptor hl hn vc_0_2 hJ) ⟨Nat.le_of_ble_eq_true rfl, Nat.le_of_ble_eq_true rfl⟩ ?_
    exact k'
  · refine xw_aload0 dy_deliver_13 ?_
    refine xw_bipush dy_deliver_14 kb_13 ?_
    refine xw_iload4 dy_deliver_16 ?_
    refine xw_cW dy_deliver_18 (lk_y_deliver_18 (xl_n hn (by decide)) rfl) ok_y_raise (my_raise hl hn) ⟨Nat.le_of_ble_eq_true rfl, Nat.le_of_ble_eq_true rfl⟩ ?_
    refine xw_goto dy_deliver_21 rfl ?_
    exact k'
  refine xw_lw (fun s2 e_s2 => ?_)
  have hJ_s2 : yx_J s2 := by rw [e_s2]; exact (xj_i (fun _ => (jy_readDescriptor vc_0_2 hJ)) (fun _ => (jy_raise hJ)))
  refine xw_aload0 dy_deliver_38 ?_
  refine xw_cVi dy_deliver_39 (lk_y_deliver_39 (xl_n hn (by decide)) rfl) ok_y_isRaised (my_isRaised hl hn) ⟨Nat.le_of_ble_eq_true rfl, Nat.le_of_ble_eq_true rfl⟩ ?_
  refine xw_if_eq' dy_deliver_42 rfl (fun h3 => ?_) (fun h3 => ?_)
  · refine xw_aload0 dy_deliver_46 ?_
    refine xw_getR dy_deliver_47 fl_y_29 (xl_n hn (by decide)) rfl r_18_14 ?_
    refine xw_iconst dy_deliver_50 ki_0 ?_
    refine xw_iald dy_deliver_51 (xl_n hn (by decide)) rfl vc_0_2 cn_0 ?_
    refine xw_li (fun v4 e_v4 => ?_)
    refine xw_istore5 dy_deliver_52 (Nat.le_of_ble_eq_true rfl) rfl ?_
    refine xw_iload5 dy_deliver_54 ?_
    refine xw_bipush dy_deliver_56 kb_8 ?_
    refine xw_icmp_eq_mw (J := 116) (a := (if a2 = 0 then (if (s2 26 0) = 0 then (fy_raise (11 : Int32) v1 s2) else s2) else (if (s2 20 21) ≤ (s2 25 0) then (if (s2 26 0) = 0 then (fy_raise (11 : Int32) v1 s2) else s2) else (fy_raise (13 : Int32) v1 s2)))) (b := (if v4 = (9 : Int32) then (if a2 = 0 then (if (s2 26 0) = 0 then (fy_raise (11 : Int32) v1 s2) else s2) else (if (s2 20 21) ≤ (s2 25 0) then (if (s2 26 0) = 0 then (fy_raise (11 : Int32) v1 s2) else s2) else (fy_raise (13 : Int32) v1 s2))) else (fy_raise (13 : Int32) v1 s2))) dy_deliver_58 rfl (fun _ E' k' => ?_) (fun _ E' k' => ?_) ?_
    · refine xw_iload2 dy_deliver_68 ?_
      refine xw_if_eq_mw (J := 116) (a := (if (s2 26 0) = 0 then (fy_raise (11 : Int32) v1 s2) else s2)) (b := (if (s2 20 21) ≤ (s2 25 0) then (if (s2 26 0) = 0 then (fy_raise (11 : Int32) v1 s2) else s2) else (fy_raise (13 : Int32) v1 s2))) dy_deliver_69 rfl (fun _ E' k' => ?_) (fun _ E' k' => ?_) ?_
      · refine xw_aload0 dy_deliver_99 ?_
        refine xw_getR dy_deliver_100 fl_y_35 (xl_n hn (by decide)) rfl r_18_16 ?_
        refine xw_iconst dy_deliver_103 ki_0 ?_
        refine xw_zald dy_deliver_104 (xl_n hn (by decide)) rfl vc_0_2 cn_0 ?_
        refine xw_if_ne_mw (J := 116) (a := (fy_raise (11 : Int32) v1 s2)) (b := s2) dy_deliver_105 rfl (fun _ E' k' => ?_) (fun _ E' k' => ?_) ?_
        · exact k'
        · refine xw_aload0 dy_deliver_108 ?_
          refine xw_bipush dy_deliver_109 kb_11 ?_
          refine xw_iload4 dy_deliver_111 ?_
          refine xw_cW dy_deliver_113 (lk_y_deliver_113 (xl_n hn (by decide)) rfl) ok_y_raise (my_raise hl hn) ⟨Nat.le_of_ble_eq_true rfl, Nat.le_of_ble_eq_true rfl⟩ ?_
          exact k'
        exact k'
      · refine xw_aload0 dy_deliver_72 ?_
        refine xw_getR dy_deliver_73 fl_y_32 (xl_n hn (by decide)) rfl r_18_15 ?_
        refine xw_iconst dy_deliver_76 ki_0 ?_
        refine xw_iald dy_deliver_77 (xl_n hn (by decide)) rfl vc_0_2 cn_0 ?_
        refine xw_aload0 dy_deliver_78 ?_
        refine xw_getR dy_deliver_79 fl_y_13 (xl_n hn (by decide)) rfl r_18_5 ?_
        refine xw_bipush dy_deliver_82 kb_21 ?_
        refine xw_iald dy_deliver_84 (xl_n hn (by decide)) rfl vc_21_26 cn_21 ?_
        refine xw_icmp_ge_mw (J := 116) (a := (if (s2 26 0) = 0 then (fy_raise (11 : Int32) v1 s2) else s2)) (b := (fy_raise (13 : Int32) v1 s2)) dy_deliver_85 rfl (fun _ E' k' => ?_) (fun _ E' k' => ?_) ?_
        · refine xw_aload0 dy_deliver_99 ?_
          refine xw_getR dy_deliver_100 fl_y_35 (xl_n hn (by decide)) rfl r_18_16 ?_
          refine xw_iconst dy_deliver_103 ki_0 ?_
          refine xw_zald dy_deliver_104 (xl_n hn (by decide)) rfl vc_0_2 cn_0 ?_
          refine xw_if_ne_mw (J := 116) (a := (fy_raise (11 : Int32) v1 s2)) (b := s2) dy_deliver_105 rfl (fun _ E' k' => ?_) (fun _ E' k' => ?_) ?_
          · exact k'
          · refine xw_aload0 dy_deliver_108 ?_
            refine xw_bipush dy_deliver_109 kb_11 ?_
            refine xw_iload4 dy_deliver_111 ?_
            refine xw_cW dy_deliver_113 (lk_y_deliver_113 (xl_n hn (by decide)) rfl) ok_y_raise (my_raise hl hn) ⟨Nat.le_of_ble_eq_true rfl, Nat.le_of_ble_eq_true rfl⟩ ?_
            exact k'
          exact k'
        · refine xw_aload0 dy_deliver_88 ?_
          refine xw_bipush dy_deliver_89 kb_13 ?_
          refine xw_iload4 dy_deliver_91 ?_
          refine xw_cW dy_deliver_93 (lk_y_deliver_93 (xl_n hn (by decide)) rfl) ok_y_raise (my_raise hl hn) ⟨Nat.le_of_ble_eq_true rfl, Nat.le_of_ble_eq_true rfl⟩ ?_
          refine xw_goto dy_deliver_96 rfl ?_
          exact k'
        exact k'
      exact k'
    · refine xw_iload5 dy_deliver_61 ?_
      refine xw_bipush dy_deliver_63 kb_9 ?_
      refine xw_icmp_ne_mw (J := 116) (a := (if a2 = 0 then (if (s2 26 0) = 0 then (fy_raise (11 : Int32) v1 s2) else s2) else (if (s2 20 21) ≤ (s2 25 0) then (if (s2 26 0) = 0 then (fy_raise (11 : Int32) v1 s2) else s2) else (fy_raise (13 : Int32) v1 s2)))) (b := (fy_raise (13 : Int32) v1 s2)) dy_deliver_65 rfl (fun _ E' k' => ?_) (fun _ E' k' => ?_) ?_
      · refine xw_aload0 dy_deliver_88 ?_
        refine xw_bipush dy_deliver_89 kb_13 ?_
        refine xw_iload4 dy_deliver_91 ?_
        refine xw_cW dy_deliver_93 (lk_y_deliver_93 (xl_n hn (by decide)) rfl) ok_y_raise (my_raise hl hn) ⟨Nat.le_of_ble_eq_true rfl, Nat.le_of_ble_eq_true rfl⟩ ?_
        refine xw_goto dy_deliver_96 rfl ?_
        exact k'
      · refine xw_iload2 dy_deliver_68 ?_
        refine xw_if_eq_mw (J := 116) (a := (if (s2 26 0) = 0 then (fy_raise (11 : Int32) v1 s2) else s2)) (b := (if (s2 20 21) ≤ (s2 25 0) then (if (s2 26 0) = 0 then (fy_raise (11 : Int32) v1 s2) else s2) else (fy_raise (13 : Int32) v1 s2))) dy_deliver_69 rfl (fun _ E' k' => ?_) (fun _ E' k' => ?_) ?_
        · refine xw_aload0 dy_deliver_99 ?_
          refine xw_getR dy_deliver_100 fl_y_35 (xl_n hn (by decide)) rfl r_18_16 ?_
          refine xw_iconst dy_deliver_103 ki_0 ?_
          refine xw_zald dy_deliver_104 (xl_n hn (by decide)) rfl vc_0_2 cn_0 ?_
          refine xw_if_ne_mw (J := 116) (a := (fy_raise (11 : Int32) v1 s2)) (b := s2) dy_deliver_105 rfl (fun _ E' k' => ?_) (fun _ E' k' => ?_) ?_
          · exact k'
          · refine xw_aload0 dy_deliver_108 ?_
            refine xw_bipush dy_deliver_109 kb_11 ?_
            refine xw_iload4 dy_deliver_111 ?_
            refine xw_cW dy_deliver_113 (lk_y_deliver_113 (xl_n hn (by decide)) rfl) ok_y_raise (my_raise hl hn) ⟨Nat.le_of_ble_eq_true rfl, Nat.le_of_ble_eq_true rfl⟩ ?_
            exact k'
          exact k'
        · refine xw_aload0 dy_deliver_72 ?_
          refine xw_getR dy_deliver_73 fl_y_32 (xl_n hn (by decide)) rfl r_18_15 ?_
          refine xw_iconst dy_deliver_76 ki_0 ?_
          refine xw_iald dy_deliver_77 (xl_n hn (by decide)) rfl vc_0_2 cn_0 ?_
          refine xw_aload0 dy_deliver_78 ?_
          refine xw_getR dy_deliver_79 fl_y_13 (xl_n hn (by decide)) rfl r_18_5 ?_
          refine xw_bipush dy_deliver_82 kb_21 ?_
          refine xw_iald dy_deliver_84 (xl_n hn (by decide)) rfl vc_21_26 cn_21 ?_
          refine xw_icmp_ge_mw (J := 116) (a := (if (s2 26 0) = 0 then (fy_raise (11 : Int32) v1 s2) else s2)) (b := (fy_raise (13 : Int32) v1 s2)) dy_deliver_85 rfl (fun _ E' k' => ?_) (fun _ E' k' => ?_) ?_
          · refine xw_aload0 dy_deliver_99 ?_
            refine xw_getR dy_deliver_100 fl_y_35 (xl_n hn (by decide)) rfl r_18_16 ?_
            refine xw_iconst dy_deliver_103 ki_0 ?_
            refine xw_zald dy_deliver_104 (xl_n hn (by decide)) rfl vc_0_2 cn_0 ?_
            refine xw_if_ne_mw (J := 116) (a := (fy_raise (11 : Int32) v1 s2)) (b := s2) dy_deliver_105 rfl (fun _ E' k' => ?_) (fun _ E' k' => ?_) ?_
            · exact k'
            · refine xw_aload0 dy_deliver_108 ?_
              refine xw_bipush dy_deliver_109 kb_11 ?_
              refine xw_iload4 dy_deliver_111 ?_
              refine xw_cW dy_deliver_113 (lk_y_deliver_113 (xl_n hn (by decide)) rfl) ok_y_raise (my_raise hl hn) ⟨Nat.le_of_ble_eq_true rfl, Nat.le_of_ble_eq_true rfl⟩ ?_
              exact k'
            exact k'
          · refine xw_aload0 dy_deliver_88 ?_
            refine xw_bipush dy_deliver_89 kb_13 ?_
            refine xw_iload4 dy_deliver_91 ?_
            refine xw_cW dy_deliver_93 (lk_y_deliver_93 (xl_n hn (by decide)) rfl) ok_y_raise (my_raise hl hn) ⟨Nat.le_of_ble_eq_true rfl, Nat.le_of_ble_eq_true rfl⟩ ?_
            refine xw_goto dy_deliver_96 rfl ?_
            exact k'
          exact k'
        exact k'
      exact k'
    refine xw_lw (fun s5 e_s5 => ?_)
    have hJ_s5 : yx_J s5 := by rw [e_s5]; exact (xj_i (fun _ => (xj_i (fun _ => (xj_i (fun _ => (jy_raise hJ_s2)) (fun _ => hJ_s2))) (fun _ => (xj_i (fun _ => (xj_i (fun _ => (jy_raise hJ_s2)) (fun _ => hJ_s2))) (fun _ => (jy_raise hJ_s2)))))) (fun _ => (xj_i (fun _ => (xj_i (fun _ => (xj_i (fun _ => (jy_raise hJ_s2)) (fun _ => hJ_s2))) (fun _ => (xj_i (fun _ => (xj_i (fun _ => (jy_raise hJ_s2)) (fun _ => hJ_s2))) (fun _ => (jy_raise hJ_s2)))))) (fun _ => (jy_raise hJ_s2)))))
    refine xw_aload0 dy_deliver_116 ?_
    refine xw_cVi dy_deliver_117 (lk_y_deliver_117 (xl_n hn (by decide)) rfl) ok_y_isRaised (my_isRaised hl hn) ⟨Nat.le_of_ble_eq_true rfl, Nat.le_of_ble_eq_true rfl⟩ ?_
    refine xw_if_eq' dy_deliver_120 rfl (fun h6 => ?_) (fun h6 => ?_)
    · refine xw_aload0 dy_deliver_124 ?_
      refine xw_aload0 dy_deliver_125 ?_
      refine xw_getR dy_deliver_126 fl_y_26 (xl_n hn (by decide)) rfl r_18_13 ?_
      refine xw_iconst dy_deliver_129 ki_0 ?_
      refine xw_iald dy_deliver_130 (xl_n hn (by decide)) rfl vc_0_2 cn_0 ?_
      refine xw_aload0 dy_deliver_131 ?_
      refine xw_getR dy_deliver_132 fl_y_23 (xl_n hn (by decide)) rfl r_18_12 ?_
      refine xw_iconst dy_deliver_135 ki_0 ?_
      refine xw_iald dy_deliver_136 (xl_n hn (by decide)) rfl vc_0_2 cn_0 ?_
      refine xw_iconst dy_deliver_137 ki_0 ?_
      refine xw_iconst dy_deliver_138 ki_0 ?_
      refine xw_iconst dy_deliver_139 ki_1 ?_
      refine xw_iload2 dy_deliver_140 ?_
      refine xw_if_eq_mi (J := 158) (a := (s5 20 19)) (b := (fy_nextIp s5)) dy_deliver_141 rfl (fun _ E' k' => ?_) (fun _ E' k' => ?_) ?_
      · refine xw_aload0 dy_deliver_151 ?_
        refine xw_getR dy_deliver_152 fl_y_13 (xl_n hn (by decide)) rfl r_18_5 ?_
        refine xw_bipush dy_deliver_155 kb_19 ?_
        refine xw_iald dy_deliver_157 (xl_n hn (by decide)) rfl vc_19_26 cn_19 ?_
        exact k'
      · refine xw_aload0 dy_deliver_144 ?_
        refine xw_cVi dy_deliver_145 (lk_y_deliver_145 (xl_n hn (by decide)) rfl) ok_y_nextIp (my_nextIp hl hn) ⟨Nat.le_of_ble_eq_true rfl, Nat.le_of_ble_eq_true rfl⟩ ?_
        refine xw_goto dy_deliver_148 rfl ?_
        exact k'
      refine xw_cW dy_deliver_158 (lk_y_deliver_158 (xl_n hn (by decide)) rfl) ok_y_through (my_through hl hn jr_0 hJ_s5) ⟨Nat.le_of_ble_eq_true rfl, Nat.le_of_ble_eq_true rfl⟩ ?_
      refine xw_lw (fun s7 e_s7 => ?_)
      have hJ_s7 : yx_J s7 := by rw [e_s7]; exact (jy_through jr_0 hJ_s5)
      refine xw_iload1 dy_deliver_161 ?_
      refine xw_bipush dy_deliver_162 kb_8 ?_
      refine xw_icmp_eq_mi (J := 184) (a := (1 : Int32)) (b := (if a1 < (10 : Int32) then (0 : Int32) else (if (14 : Int32) < a1 then (0 : Int32) else (1 : Int32)))) dy_deliver_164 rfl (fun _ E' k' => ?_) (fun _ E' k' => ?_) ?_
      · refine xw_iconst dy_deliver_179 ki_1 ?_
        refine xw_goto dy_deliver_180 rfl ?_
        exact k'
      · refine xw_iload1 dy_deliver_167 ?_
        refine xw_bipush dy_deliver_168 kb_10 ?_
        refine xw_icmp_lt_mi (J := 184) (a := (0 : Int32)) (b := (if (14 : Int32) < a1 then (0 : Int32) else (1 : Int32))) dy_deliver_170 rfl (fun _ E' k' => ?_) (fun _ E' k' => ?_) ?_
        · refine xw_iconst dy_deliver_183 ki_0 ?_
          exact k'
        · refine xw_iload1 dy_deliver_173 ?_
          refine xw_bipush dy_deliver_174 kb_14 ?_
          refine xw_icmp_gt_mi (J := 184) (a := (0 : Int32)) (b := (1 : Int32)) dy_deliver_176 rfl (fun _ E' k' => ?_) (fun _ E' k' => ?_) ?_
          · refine xw_iconst dy_deliver_183 ki_0 ?_
            exact k'
          · refine xw_iconst dy_deliver_179 ki_1 ?_
            refine xw_goto dy_deliver_180 rfl ?_
            exact k'
          exact k'
        exact k'
      refine xw_li (fun v8 e_v8 => ?_)
      refine xw_istore6 dy_deliver_184 (Nat.le_of_ble_eq_true rfl) rfl ?_
      refine xw_iload2 dy_deliver_186 ?_
      refine xw_if_ne_mw (J := 200) (a := (if v8 = 0 then s7 else (fy_pushWord a3 s7))) (b := s7) dy_deliver_187 rfl (fun _ E' k' => ?_) (fun _ E' k' => ?_) ?_
      · exact k'
      · refine xw_iload6 dy_deliver_190 ?_
        refine xw_if_eq_mw (J := 200) (a := s7) (b := (fy_pushWord a3 s7)) dy_deliver_192 rfl (fun _ E' k' => ?_) (fun _ E' k' => ?_) ?_
        · exact k'
        · refine xw_aload0 dy_deliver_195 ?_
          refine xw_iload3 dy_deliver_196 ?_
          refine xw_cW dy_deliver_197 (lk_y_deliver_197 (xl_n hn (by decide)) rfl) ok_y_pushWord (my_pushWord hl hn hJ_s7) ⟨Nat.le_of_ble_eq_true rfl, Nat.le_of_ble_eq_true rfl⟩ ?_
          exact k'
        exact k'
      refine xw_lw (fun s9 e_s9 => ?_)
      have hJ_s9 : yx_J s9 := by rw [e_s9]; exact (xj_i (fun _ => (xj_i (fun _ => hJ_s7) (fun _ => (jy_pushWord hJ_s7)))) (fun _ => hJ_s7))
      refine xw_aload0 dy_deliver_200 ?_
      refine xw_cVi dy_deliver_201 (lk_y_deliver_201 (xl_n hn (by decide)) rfl) ok_y_isRaised (my_isRaised hl hn) ⟨Nat.le_of_ble_eq_true rfl, Nat.le_of_ble_eq_true rfl⟩ ?_
      refine xw_if_ne' dy_deliver_204 rfl (fun h10 => ?_) (fun h10 => ?_)
      · exact xw_vret dy_deliver_229 rfl
      · refine xw_aload0 dy_deliver_207 ?_
        refine xw_getR dy_deliver_208 fl_y_13 (xl_n hn (by decide)) rfl r_18_5 ?_
        refine xw_bipush dy_deliver_211 kb_20 ?_
        refine xw_dup2 dy_deliver_213 rfl rfl ?_
        refine xw_iald dy_deliver_214 (xl_n hn (by decide)) rfl vc_20_26 cn_20 ?_
        refine xw_iload5 dy_deliver_215 ?_
        refine xw_bipush dy_deliver_217 kb_8 ?_
        refine xw_icmp_ne_mi (J := 227) (a := (0 : Int32)) (b := (1 : Int32)) dy_deliver_219 rfl (fun _ E' k' => ?_) (fun _ E' k' => ?_) ?_
        · refine xw_iconst dy_deliver_226 ki_1 ?_
          exact k'
        · refine xw_iconst dy_deliver_222 ki_0 ?_
          refine xw_goto dy_deliver_223 rfl ?_
          exact k'
        refine xw_iand dy_deliver_227 ?_
        refine xw_iast dy_deliver_228 (by decide) (xl_n hn (by decide)) rfl vc_20_26 cn_20 ?_
        refine xw_lw (fun s11 e_s11 => ?_)
        have hJ_s11 : yx_J s11 := by rw [e_s11]; exact (yx_u hJ_s9 (by decide))
        exact xw_vret dy_deliver_229 rfl
    · exact xw_vret dy_deliver_123 rfl
  · exact xw_vret dy_deliver_45 rfl
theorem jy_deliver {a1 : Int32} {a2 : Int32} {a3 : Int32} {σ : xs_S} (hJ : yx_J σ) : yx_J (fy_deliver a1 a2 a3 σ) := by
  unfold fy_deliver
  refine xj_wl (fun v1 e_v1 => ?_)
  refine xj_wl (fun s2 e_s2 => ?_)
  have hJ_s2 : yx_J s2 := by rw [e_s2]; exact (xj_i (fun _ => (jy_readDescriptor vc_0_2 hJ)) (fun _ => (jy_raise hJ)))
  refine xj_wf (fun h3 => ?_) (fun h3 => ?_)
  · refine xj_wl (fun v4 e_v4 => ?_)
    refine xj_wl (fun s5 e_s5 => ?_)
    have hJ_s5 : yx_J s5 := by rw [e_s5]; exact (xj_i (fun _ => (xj_i (fun _ => (xj_i (fun _ => (jy_raise hJ_s2)) (fun _ => hJ_s2))) (fun _ => (xj_i (fun _ => (xj_i (fun _ => (jy_raise hJ_s2)) (fun _ => hJ_s2))) (fun _ => (jy_raise hJ_s2)))))) (fun _ => (xj_i (fun _ => (xj_i (fun _ => (xj_i (fun _ => (jy_raise hJ_s2)) (fun _ => hJ_s2))) (fun _ => (xj_i (fun _ => (xj_i (fun _ => (jy_raise hJ_s2)) (fun _ => hJ_s2))) (fun _ => (jy_raise hJ_s2)))))) (fun _ => (jy_raise hJ_s2)))))
    refine xj_wf (fun h6 => ?_) (fun h6 => ?_)
    · refine xj_wl (fun s7 e_s7 => ?_)
      have hJ_s7 : yx_J s7 := by rw [e_s7]; exact (jy_through jr_0 hJ_s5)
      refine xj_wl (fun v8 e_v8 => ?_)
      refine xj_wl (fun s9 e_s9 => ?_)
      have hJ_s9 : yx_J s9 := by rw [e_s9]; exact (xj_i (fun _ => (xj_i (fun _ => hJ_s7) (fun _ => (jy_pushWord hJ_s7)))) (fun _ => hJ_s7))
      refine xj_wf (fun h10 => ?_) (fun h10 => ?_)
      · refine xj_wl (fun s11 e_s11 => ?_)
        have hJ_s11 : yx_J s11 := by rw [e_s11]; exact (yx_u hJ_s9 (by decide))
        exact hJ_s11
      · exact hJ_s9
    · exact hJ_s5
  · exact hJ_s2
def fy_keep (σ : xs_S) : xs_S := xl_l ((xu_u σ 21 0 (σ 20 0))) (fun s1 => xl_l ((xu_u s1 21 1 (s1 20 1))) (fun s2 => xl_l ((xu_u s2 21 2 (s2 20 2))) (fun s3 => xl_l ((xu_u s3 21 3 (s3 20 3))) (fun s4 => xl_l ((xu_u s4 21 4 (s4 20 4))) (fun s5 => xl_l ((xu_u s5 21 5 (s5 20 5))) (fun s6 => xl_l ((xu_u s6 21 6 (s6 20 6))) (fun s7 => xl_l ((xu_u s7 21 7 (s7 20 7))) (fun s8 => xl_l ((xu_u s8 21 8 (s8 20 8))) (fun s9 => xl_l ((xu_u s9 21 9 (s9 20 9))) (fun s10 => xl_l ((xu_u s10 21 10 (s10 20 10))) (fun s11 => xl_l ((xu_u s11 21 11 (s11 20 11))) (fun s12 => xl_l ((xu_u s12 21 12 (s12 20 12))) (fun s13 => xl_l ((xu_u s13 21 13 (s13 20 13))) (fun s14 => xl_l ((xu_u s14 21 14 (s14 20 14))) (fun s15 => xl_l ((xu_u s15 21 15 (s15 20 15))) (fun s16 => xl_l ((xu_u s16 21 16 (s16 20 16))) (fun s17 => xl_l ((xu_u s17 21 17 (s17 20 17))) (fun s18 => xl_l ((xu_u s18 21 18 (s18 20 18))) (fun s19 => xl_l ((xu_u s19 21 19 (s19 20 19))) (fun s20 => xl_l ((xu_u s20 21 20 (s20 20 20))) (fun s21 => xl_l ((xu_u s21 21 21 (s21 20 21))) (fun s22 => xl_l ((xu_u s22 21 22 (s22 20 22))) (fun s23 => xl_l ((xu_u s23 21 23 (s23 20 23))) (fun s24 => xl_l ((xu_u s24 21 24 (s24 20 24))) (fun s25 => xl_l ((xu_u s25 21 25 (s25 20 25))) (fun s26 => xl_l ((xu_u s26 18 9 (-1 : Int32))) (fun s27 => s27)))))))))))))))))))))))))))
set_option maxRecDepth 100000 in
set_option maxHeartbeats 4000000 in
theorem my_keep {l : Launch} {N n u : Nat} {σ : xs_S} (hl : l.stackTraces = false) (hn : 29 ≤ n) : xm_m (xk_k N) l ty_keep [.ref 18] (n, u, σ, xr_0) (xe_w n u (fy_keep σ)) := by
  refine xm_of hl ok_y_keep (Nat.le_of_ble_eq_true rfl) ?_
  show xw_w (xk_k N) l ty_keep 0 [some (.ref 18), none] [] (n, u, σ, xr_0) (xe_w n u (fy_keep σ))
  unfold fy_keep
  refine xw_iconst dy_keep_0 ki_0 ?_
  refine xw_istore1 dy_keep_1 (Nat.le_of_ble_eq_true rfl) rfl ?_
  refine xw_iload1 dy_keep_2 ?_
  refine xw_bipush dy_keep_3 kb_26 ?_
  refine xw_icmp_ge_f dy_keep_5 rfl (by decide) ?_
  refine xw_aload0 dy_keep_8 ?_
  refine xw_getR dy_keep_9 fl_y_16 (xl_n hn (by decide)) rfl r_18_6 ?_
  refine xw_iload1 dy_keep_12 ?_
  refine xw_aload0 dy_keep_13 ?_
  refine xw_getR dy_keep_14 fl_y_13 (xl_n hn (by decide)) rfl r_18_5 ?_
  refine xw_iload1 dy_keep_17 ?_
  refine xw_iald dy_keep_18 (xl_n hn (by decide)) rfl vc_0_26 cn_0 ?_
  refine xw_iast dy_keep_19 (by decide) (xl_n hn (by decide)) rfl vc_0_26 cn_0 ?_
  refine xw_lw (fun s1 e_s1 => ?_)
  refine xw_iinc1 dy_keep_20 ic_0_1 (Nat.le_of_ble_eq_true rfl) rfl ?_
  refine xw_goto dy_keep_23 rfl ?_
  refine xw_iload1 dy_keep_2 ?_
  refine xw_bipush dy_keep_3 kb_26 ?_
  refine xw_icmp_ge_f dy_keep_5 rfl (by decide) ?_
  refine xw_aload0 dy_keep_8 ?_
  refine xw_getR dy_keep_9 fl_y_16 (xl_n hn (by decide)) rfl r_18_6 ?_
  refine xw_iload1 dy_keep_12 ?_
  refine xw_aload0 dy_keep_13 ?_
  refine xw_getR dy_keep_14 fl_y_13 (xl_n hn (by decide)) rfl r_18_5 ?_
  refine xw_iload1 dy_keep_17 ?_
  refine xw_iald dy_keep_18 (xl_n hn (by decide)) rfl vc_1_26 cn_1 ?_
  refine xw_iast dy_keep_19 (by decide) (xl_n hn (by decide)) rfl vc_1_26 cn_1 ?_
  refine xw_lw (fun s2 e_s2 => ?_)
  refine xw_iinc1 dy_keep_20 ic_1_1 (Nat.le_of_ble_eq_true rfl) rfl ?_
  refine xw_goto dy_keep_23 rfl ?_
  refine xw_iload1 dy_keep_2 ?_
  refine xw_bipush dy_keep_3 kb_26 ?_
  refine xw_icmp_ge_f dy_keep_5 rfl (by decide) ?_
  refine xw_aload0 dy_keep_8 ?_
  refine xw_getR dy_keep_9 fl_y_16 (xl_n hn (by decide)) rfl r_18_6 ?_
  refine xw_iload1 dy_keep_12 ?_
  refine xw_aload0 dy_keep_13 ?_
  refine xw_getR dy_keep_14 fl_y_13 (xl_n hn (by decide)) rfl r_18_5 ?_
  refine xw_iload1 dy_keep_17 ?_
  refine xw_iald dy_keep_18 (xl_n hn (by decide)) rfl vc_2_26 cn_2 ?_
  refine xw_iast dy_keep_19 (by decide) (xl_n hn (by decide)) rfl vc_2_26 cn_2 ?_
  refine xw_lw (fun s3 e_s3 => ?_)
  refine xw_iinc1 dy_keep_20 ic_2_1 (Nat.le_of_ble_eq_true rfl) rfl ?_
  refine xw_goto dy_keep_23 rfl ?_
  refine xw_iload1 dy_keep_2 ?_
  refine xw_bipush dy_keep_3 kb_26 ?_
  refine xw_icmp_ge_f dy_keep_5 rfl (by decide) ?_
  refine xw_aload0 dy_keep_8 ?_
  refine xw_getR dy_keep_9 fl_y_16 (xl_n hn (by decide)) rfl r_18_6 ?_
  refine xw_iload1 dy_keep_12 ?_
  refine xw_aload0 dy_keep_13 ?_
  refine xw_getR dy_keep_14 fl_y_13 (xl_n hn (by decide)) rfl r_18_5 ?_
  refine xw_iload1 dy_keep_17 ?_
  refine xw_iald dy_keep_18 (xl_n hn (by decide)) rfl vc_3_26 cn_3 ?_
  refine xw_iast dy_keep_19 (by decide) (xl_n hn (by decide)) rfl vc_3_26 cn_3 ?_
  refine xw_lw (fun s4 e_s4 => ?_)
  refine xw_iinc1 dy_keep_20 ic_3_1 (Nat.le_of_ble_eq_true rfl) rfl ?_
  refine xw_goto dy_keep_23 rfl ?_
  refine xw_iload1 dy_keep_2 ?_
  refine xw_bipush dy_keep_3 kb_26 ?_
  refine xw_icmp_ge_f dy_keep_5 rfl (by decide) ?_
  refine xw_aload0 dy_keep_8 ?_
  refine xw_getR dy_keep_9 fl_y_16 (xl_n hn (by decide)) rfl r_18_6 ?_
  refine xw_iload1 dy_keep_12 ?_
  refine xw_aload0 dy_keep_13 ?_
  refine xw_getR dy_keep_14 fl_y_13 (xl_n hn (by decide)) rfl r_18_5 ?_
  refine xw_iload1 dy_keep_17 ?_
  refine xw_iald dy_keep_18 (xl_n hn (by decide)) rfl vc_4_26 cn_4 ?_
  refine xw_iast dy_keep_19 (by decide) (xl_n hn (by decide)) rfl vc_4_26 cn_4 ?_
  refine xw_lw (fun s5 e_s5 => ?_)
  refine xw_iinc1 dy_keep_20 ic_4_1 (Nat.le_of_ble_eq_true rfl) rfl ?_
  refine xw_goto dy_keep_23 rfl ?_
  refine xw_iload1 dy_keep_2 ?_
  refine xw_bipush dy_keep_3 kb_26 ?_
  refine xw_icmp_ge_f dy_keep_5 rfl (by decide) ?_
  refine xw_aload0 dy_keep_8 ?_
  refine xw_getR dy_keep_9 fl_y_16 (xl_n hn (by decide)) rfl r_18_6 ?_
  refine xw_iload1 dy_keep_12 ?_
  refine xw_aload0 dy_keep_13 ?_
  refine xw_getR dy_keep_14 fl_y_13 (xl_n hn (by decide)) rfl r_18_5 ?_
  refine xw_iload1 dy_keep_17 ?_
  refine xw_iald dy_keep_18 (xl_n hn (by decide)) rfl vc_5_26 cn_5 ?_
  refine xw_iast dy_keep_19 (by decide) (xl_n hn (by decide)) rfl vc_5_26 cn_5 ?_
  refine xw_lw (fun s6 e_s6 => ?_)
  refine xw_iinc1 dy_keep_20 ic_5_1 (Nat.le_of_ble_eq_true rfl) rfl ?_
  refine xw_goto dy_keep_23 rfl ?_
  refine xw_iload1 dy_keep_2 ?_
  refine xw_bipush dy_keep_3 kb_26 ?_
  refine xw_icmp_ge_f dy_keep_5 rfl (by decide) ?_
  refine xw_aload0 dy_keep_8 ?_
  refine xw_getR dy_keep_9 fl_y_16 (xl_n hn (by decide)) rfl r_18_6 ?_
  refine xw_iload1 dy_keep_12 ?_
  refine xw_aload0 dy_keep_13 ?_
  refine xw_getR dy_keep_14 fl_y_13 (xl_n hn (by decide)) rfl r_18_5 ?_
  refine xw_iload1 dy_keep_17 ?_
  refine xw_iald dy_keep_18 (xl_n hn (by decide)) rfl vc_6_26 cn_6 ?_
  refine xw_iast dy_keep_19 (by decide) (xl_n hn (by decide)) rfl vc_6_26 cn_6 ?_
  refine xw_lw (fun s7 e_s7 => ?_)
  refine xw_iinc1 dy_keep_20 ic_6_1 (Nat.le_of_ble_eq_true rfl) rfl ?_
  refine xw_goto dy_keep_23 rfl ?_
  refine xw_iload1 dy_keep_2 ?_
  refine xw_bipush dy_keep_3 kb_26 ?_
  refine xw_icmp_ge_f dy_keep_5 rfl (by decide) ?_
  refine xw_aload0 dy_keep_8 ?_
  refine xw_getR dy_keep_9 fl_y_16 (xl_n hn (by decide)) rfl r_18_6 ?_
  refine xw_iload1 dy_keep_12 ?_
  refine xw_aload0 dy_keep_13 ?_
  refine xw_getR dy_keep_14 fl_y_13 (xl_n hn (by decide)) rfl r_18_5 ?_
  refine xw_iload1 dy_keep_17 ?_
  refine xw_iald dy_keep_18 (xl_n hn (by decide)) rfl vc_7_26 cn_7 ?_
  refine xw_iast dy_keep_19 (by decide) (xl_n hn (by decide)) rfl vc_7_26 cn_7 ?_
  refine xw_lw (fun s8 e_s8 => ?_)
  refine xw_iinc1 dy_keep_20 ic_7_1 (Nat.le_of_ble_eq_true rfl) rfl ?_
  refine xw_goto dy_keep_23 rfl ?_
  refine xw_iload1 dy_keep_2 ?_
  refine xw_bipush dy_keep_3 kb_26 ?_
  refine xw_icmp_ge_f dy_keep_5 rfl (by decide) ?_
  refine xw_aload0 dy_keep_8 ?_
  refine xw_getR dy_keep_9 fl_y_16 (xl_n hn (by decide)) rfl r_18_6 ?_
  refine xw_iload1 dy_keep_12 ?_
  refine xw_aload0 dy_keep_13 ?_
  refine xw_getR dy_keep_14 fl_y_13 (xl_n hn (by decide)) rfl r_18_5 ?_
  refine xw_iload1 dy_keep_17 ?_
  refine xw_iald dy_keep_18 (xl_n hn (by decide)) rfl vc_8_26 cn_8 ?_
  refine xw_iast dy_keep_19 (by decide) (xl_n hn (by decide)) rfl vc_8_26 cn_8 ?_
  refine xw_lw (fun s9 e_s9 => ?_)
  refine xw_iinc1 dy_keep_20 ic_8_1 (Nat.le_of_ble_eq_true rfl) rfl ?_
  refine xw_goto dy_keep_23 rfl ?_
  refine xw_iload1 dy_keep_2 ?_
  refine xw_bipush dy_keep_3 kb_26 ?_
  refine xw_icmp_ge_f dy_keep_5 rfl (by decide) ?_
  refine xw_aload0 dy_keep_8 ?_
  refine xw_getR dy_keep_9 fl_y_16 (xl_n hn (by decide)) rfl r_18_6 ?_
  refine xw_iload1 dy_keep_12 ?_
  refine xw_aload0 dy_keep_13 ?_
  refine xw_getR dy_keep_14 fl_y_13 (xl_n hn (by decide)) rfl r_18_5 ?_
  refine xw_iload1 dy_keep_17 ?_
  refine xw_iald dy_keep_18 (xl_n hn (by decide)) rfl vc_9_26 cn_9 ?_
  refine xw_iast dy_keep_19 (by decide) (xl_n hn (by decide)) rfl vc_9_26 cn_9 ?_
  refine xw_lw (fun s10 e_s10 => ?_)
  refine xw_iinc1 dy_keep_20 ic_9_1 (Nat.le_of_ble_eq_true rfl) rfl ?_
  refine xw_goto dy_keep_23 rfl ?_
  refine xw_iload1 dy_keep_2 ?_
  refine xw_bipush dy_keep_3 kb_26 ?_
  refine xw_icmp_ge_f dy_keep_5 rfl (by decide) ?_
  refine xw_aload0 dy_keep_8 ?_
  refine xw_getR dy_keep_9 fl_y_16 (xl_n hn (by decide)) rfl r_18_6 ?_
  refine xw_iload1 dy_keep_12 ?_
  refine xw_aload0 dy_keep_13 ?_
  refine xw_getR dy_keep_14 fl_y_13 (xl_n hn (by decide)) rfl r_18_5 ?_
  refine xw_iload1 dy_keep_17 ?_
  refine xw_iald dy_keep_18 (xl_n hn (by decide)) rfl vc_10_26 cn_10 ?_
  refine xw_iast dy_keep_19 (by decide) (xl_n hn (by decide)) rfl vc_10_26 cn_10 ?_
  refine xw_lw (fun s11 e_s11 => ?_)
  refine xw_iinc1 dy_keep_20 ic_10_1 (Nat.le_of_ble_eq_true rfl) rfl ?_
  refine xw_goto dy_keep_23 rfl ?_
  refine xw_iload1 dy_keep_2 ?_
  refine xw_bipush dy_keep_3 kb_26 ?_
  refine xw_icmp_ge_f dy_keep_5 rfl (by decide) ?_
  refine xw_aload0 dy_keep_8 ?_
  refine xw_getR dy_keep_9 fl_y_16 (xl_n hn (by decide)) rfl r_18_6 ?_
  refine xw_iload1 dy_keep_12 ?_
  refine xw_aload0 dy_keep_13 ?_
  refine xw_getR dy_keep_14 fl_y_13 (xl_n hn (by decide)) rfl r_18_5 ?_
  refine xw_iload1 dy_keep_17 ?_
  refine xw_iald dy_keep_18 (xl_n hn (by decide)) rfl vc_11_26 cn_11 ?_
  refine xw_iast dy_keep_19 (by decide) (xl_n hn (by decide)) rfl vc_11_26 cn_11 ?_
  refine xw_lw (fun s12 e_s12 => ?_)
  refine xw_iinc1 dy_keep_20 ic_11_1 (Nat.le_of_ble_eq_true rfl) rfl ?_
  refine xw_goto dy_keep_23 rfl ?_
  refine xw_iload1 dy_keep_2 ?_
  refine xw_bipush dy_keep_3 kb_26 ?_
  refine xw_icmp_ge_f dy_keep_5 rfl (by decide) ?_
  refine xw_aload0 dy_keep_8 ?_
  refine xw_getR dy_keep_9 fl_y_16 (xl_n hn (by decide)) rfl r_18_6 ?_
  refine xw_iload1 dy_keep_12 ?_
  refine xw_aload0 dy_keep_13 ?_
  refine xw_getR dy_keep_14 fl_y_13 (xl_n hn (by decide)) rfl r_18_5 ?_
  refine xw_iload1 dy_keep_17 ?_
  refine xw_iald dy_keep_18 (xl_n hn (by decide)) rfl vc_12_26 cn_12 ?_
  refine xw_iast dy_keep_19 (by decide) (xl_n hn (by decide)) rfl vc_12_26 cn_12 ?_
  refine xw_lw (fun s13 e_s13 => ?_)
  refine xw_iinc1 dy_keep_20 ic_12_1 (Nat.le_of_ble_eq_true rfl) rfl ?_
  refine xw_goto dy_keep_23 rfl ?_
  refine xw_iload1 dy_keep_2 ?_
  refine xw_bipush dy_keep_3 kb_26 ?_
  refine xw_icmp_ge_f dy_keep_5 rfl (by decide) ?_
  refine xw_aload0 dy_keep_8 ?_
  refine xw_getR dy_keep_9 fl_y_16 (xl_n hn (by decide)) rfl r_18_6 ?_
  refine xw_iload1 dy_keep_12 ?_
  refine xw_aload0 dy_keep_13 ?_
  refine xw_getR dy_keep_14 fl_y_13 (xl_n hn (by decide)) rfl r_18_5 ?_
  refine xw_iload1 dy_keep_17 ?_
  refine xw_iald dy_keep_18 (xl_n hn (by decide)) rfl vc_13_26 cn_13 ?_
  refine xw_iast dy_keep_19 (by decide) (xl_n hn (by decide)) rfl vc_13_26 cn_13 ?_
  refine xw_lw (fun s14 e_s14 => ?_)
  refine xw_iinc1 dy_keep_20 ic_13_1 (Nat.le_of_ble_eq_true rfl) rfl ?_
  refine xw_goto dy_keep_23 rfl ?_
  refine xw_iload1 dy_keep_2 ?_
  refine xw_bipush dy_keep_3 kb_26 ?_
  refine xw_icmp_ge_f dy_keep_5 rfl (by decide) ?_
  refine xw_aload0 dy_keep_8 ?_
  refine xw_getR dy_keep_9 fl_y_16 (xl_n hn (by decide)) rfl r_18_6 ?_
  refine xw_iload1 dy_keep_12 ?_
  refine xw_aload0 dy_keep_13 ?_
  refine xw_getR dy_keep_14 fl_y_13 (xl_n hn (by decide)) rfl r_18_5 ?_
  refine xw_iload1 dy_keep_17 ?_
  refine xw_iald dy_keep_18 (xl_n hn (by decide)) rfl vc_14_26 cn_14 ?_
  refine xw_iast dy_keep_19 (by decide) (xl_n hn (by decide)) rfl vc_14_26 cn_14 ?_
  refine xw_lw (fun s15 e_s15 => ?_)
  refine xw_iinc1 dy_keep_20 ic_14_1 (Nat.le_of_ble_eq_true rfl) rfl ?_
  refine xw_goto dy_keep_23 rfl ?_
  refine xw_iload1 dy_keep_2 ?_
  refine xw_bipush dy_keep_3 kb_26 ?_
  refine xw_icmp_ge_f dy_keep_5 rfl (by decide) ?_
  refine xw_aload0 dy_keep_8 ?_
  refine xw_getR dy_keep_9 fl_y_16 (xl_n hn (by decide)) rfl r_18_6 ?_
  refine xw_iload1 dy_keep_12 ?_
  refine xw_aload0 dy_keep_13 ?_
  refine xw_getR dy_keep_14 fl_y_13 (xl_n hn (by decide)) rfl r_18_5 ?_
  refine xw_iload1 dy_keep_17 ?_
  refine xw_iald dy_keep_18 (xl_n hn (by decide)) rfl vc_15_26 cn_15 ?_
  refine xw_iast dy_keep_19 (by decide) (xl_n hn (by decide)) rfl vc_15_26 cn_15 ?_
  refine xw_lw (fun s16 e_s16 => ?_)
  refine xw_iinc1 dy_keep_20 ic_15_1 (Nat.le_of_ble_eq_true rfl) rfl ?_
  refine xw_goto dy_keep_23 rfl ?_
  refine xw_iload1 dy_keep_2 ?_
  refine xw_bipush dy_keep_3 kb_26 ?_
  refine xw_icmp_ge_f dy_keep_5 rfl (by decide) ?_
  refine xw_aload0 dy_keep_8 ?_
  refine xw_getR dy_keep_9 fl_y_16 (xl_n hn (by decide)) rfl r_18_6 ?_
  refine xw_iload1 dy_keep_12 ?_
  refine xw_aload0 dy_keep_13 ?_
  refine xw_getR dy_keep_14 fl_y_13 (xl_n hn (by decide)) rfl r_18_5 ?_
  refine xw_iload1 dy_keep_17 ?_
  refine xw_iald dy_keep_18 (xl_n hn (by decide)) rfl vc_16_26 cn_16 ?_
  refine xw_iast dy_keep_19 (by decide) (xl_n hn (by decide)) rfl vc_16_26 cn_16 ?_
  refine xw_lw (fun s17 e_s17 => ?_)
  refine xw_iinc1 dy_keep_20 ic_16_1 (Nat.le_of_ble_eq_true rfl) rfl ?_
  refine xw_goto dy_keep_23 rfl ?_
  refine xw_iload1 dy_keep_2 ?_
  refine xw_bipush dy_keep_3 kb_26 ?_
  refine xw_icmp_ge_f dy_keep_5 rfl (by decide) ?_
  refine xw_aload0 dy_keep_8 ?_
  refine xw_getR dy_keep_9 fl_y_16 (xl_n hn (by decide)) rfl r_18_6 ?_
  refine xw_iload1 dy_keep_12 ?_
  refine xw_aload0 dy_keep_13 ?_
  refine xw_getR dy_keep_14 fl_y_13 (xl_n hn (by decide)) rfl r_18_5 ?_
  refine xw_iload1 dy_keep_17 ?_
  refine xw_iald dy_keep_18 (xl_n hn (by decide)) rfl vc_17_26 cn_17 ?_
  refine xw_iast dy_keep_19 (by decide) (xl_n hn (by decide)) rfl vc_17_26 cn_17 ?_
  refine xw_lw (fun s18 e_s18 => ?_)
  refine xw_iinc1 dy_keep_20 ic_17_1 (Nat.le_of_ble_eq_true rfl) rfl ?_
  refine xw_goto dy_keep_23 rfl ?_
  refine xw_iload1 dy_keep_2 ?_
  refine xw_bipush dy_keep_3 kb_26 ?_
  refine xw_icmp_ge_f dy_keep_5 rfl (by decide) ?_
  refine xw_aload0 dy_keep_8 ?_
  refine xw_getR dy_keep_9 fl_y_16 (xl_n hn (by decide)) rfl r_18_6 ?_
  refine xw_iload1 dy_keep_12 ?_
  refine xw_aload0 dy_keep_13 ?_
  refine xw_getR dy_keep_14 fl_y_13 (xl_n hn (by decide)) rfl r_18_5 ?_
  refine xw_iload1 dy_keep_17 ?_
  refine xw_iald dy_keep_18 (xl_n hn (by decide)) rfl vc_18_26 cn_18 ?_
  refine xw_iast dy_keep_19 (by decide) (xl_n hn (by decide)) rfl vc_18_26 cn_18 ?_
  refine xw_lw (fun s19 e_s19 => ?_)
  refine xw_iinc1 dy_keep_20 ic_18_1 (Nat.le_of_ble_eq_true rfl) rfl ?_
  refine xw_goto dy_keep_23 rfl ?_
  refine xw_iload1 dy_keep_2 ?_
  refine xw_bipush dy_keep_3 kb_26 ?_
  refine xw_icmp_ge_f dy_keep_5 rfl (by decide) ?_
  refine xw_aload0 dy_keep_8 ?_
  refine xw_getR dy_keep_9 fl_y_16 (xl_n hn (by decide)) rfl r_18_6 ?_
  refine xw_iload1 dy_keep_12 ?_
  refine xw_aload0 dy_keep_13 ?_
  refine xw_getR dy_keep_14 fl_y_13 (xl_n hn (by decide)) rfl r_18_5 ?_
  refine xw_iload1 dy_keep_17 ?_
  refine xw_iald dy_keep_18 (xl_n hn (by decide)) rfl vc_19_26 cn_19 ?_
  refine xw_iast dy_keep_19 (by decide) (xl_n hn (by decide)) rfl vc_19_26 cn_19 ?_
  refine xw_lw (fun s20 e_s20 => ?_)
  refine xw_iinc1 dy_keep_20 ic_19_1 (Nat.le_of_ble_eq_true rfl) rfl ?_
  refine xw_goto dy_keep_23 rfl ?_
  refine xw_iload1 dy_keep_2 ?_
  refine xw_bipush dy_keep_3 kb_26 ?_
  refine xw_icmp_ge_f dy_keep_5 rfl (by decide) ?_
  refine xw_aload0 dy_keep_8 ?_
  refine xw_getR dy_keep_9 fl_y_16 (xl_n hn (by decide)) rfl r_18_6 ?_
  refine xw_iload1 dy_keep_12 ?_
  refine xw_aload0 dy_keep_13 ?_
  refine xw_getR dy_keep_14 fl_y_13 (xl_n hn (by decide)) rfl r_18_5 ?_
  refine xw_iload1 dy_keep_17 ?_
  refine xw_iald dy_keep_18 (xl_n hn (by decide)) rfl vc_20_26 cn_20 ?_
  refine xw_iast dy_keep_19 (by decide) (xl_n hn (by decide)) rfl vc_20_26 cn_20 ?_
  refine xw_lw (fun s21 e_s21 => ?_)
  refine xw_iinc1 dy_keep_20 ic_20_1 (Nat.le_of_ble_eq_true rfl) rfl ?_
  refine xw_goto dy_keep_23 rfl ?_
  refine xw_iload1 dy_keep_2 ?_
  refine xw_bipush dy_keep_3 kb_26 ?_
  refine xw_icmp_ge_f dy_keep_5 rfl (by decide) ?_
  refine xw_aload0 dy_keep_8 ?_
  refine xw_getR dy_keep_9 fl_y_16 (xl_n hn (by decide)) rfl r_18_6 ?_
  refine xw_iload1 dy_keep_12 ?_
  refine xw_aload0 dy_keep_13 ?_
  refine xw_getR dy_keep_14 fl_y_13 (xl_n hn (by decide)) rfl r_18_5 ?_
  refine xw_iload1 dy_keep_17 ?_
  refine xw_iald dy_keep_18 (xl_n hn (by decide)) rfl vc_21_26 cn_21 ?_
  refine xw_iast dy_keep_19 (by decide) (xl_n hn (by decide)) rfl vc_21_26 cn_21 ?_
  refine xw_lw (fun s22 e_s22 => ?_)
  refine xw_iinc1 dy_keep_20 ic_21_1 (Nat.le_of_ble_eq_true rfl) rfl ?_
  refine xw_goto dy_keep_23 rfl ?_
  refine xw_iload1 dy_keep_2 ?_
  refine xw_bipush dy_keep_3 kb_26 ?_
  refine xw_icmp_ge_f dy_keep_5 rfl (by decide) ?_
  refine xw_aload0 dy_keep_8 ?_
  refine xw_getR dy_keep_9 fl_y_16 (xl_n hn (by decide)) rfl r_18_6 ?_
  refine xw_iload1 dy_keep_12 ?_
  refine xw_aload0 dy_keep_13 ?_
  refine xw_getR dy_keep_14 fl_y_13 (xl_n hn (by decide)) rfl r_18_5 ?_
  refine xw_iload1 dy_keep_17 ?_
  refine xw_iald dy_keep_18 (xl_n hn (by decide)) rfl vc_22_26 cn_22 ?_
  refine xw_iast dy_keep_19 (by decide) (xl_n hn (by decide)) rfl vc_22_26 cn_22 ?_
  refine xw_lw (fun s23 e_s23 => ?_)
  refine xw_iinc1 dy_keep_20 ic_22_1 (Nat.le_of_ble_eq_true rfl) rfl ?_
  refine xw_goto dy_keep_23 rfl ?_
  refine xw_iload1 dy_keep_2 ?_
  refine xw_bipush dy_keep_3 kb_26 ?_
  refine xw_icmp_ge_f dy_keep_5 rfl (by decide) ?_
  refine xw_aload0 dy_keep_8 ?_
  refine xw_getR dy_keep_9 fl_y_16 (xl_n hn (by decide)) rfl r_18_6 ?_
  refine xw_iload1 dy_keep_12 ?_
  refine xw_aload0 dy_keep_13 ?_
  refine xw_getR dy_keep_14 fl_y_13 (xl_n hn (by decide)) rfl r_18_5 ?_
  refine xw_iload1 dy_keep_17 ?_
  refine xw_iald dy_keep_18 (xl_n hn (by decide)) rfl vc_23_26 cn_23 ?_
  refine xw_iast dy_keep_19 (by decide) (xl_n hn (by decide)) rfl vc_23_26 cn_23 ?_
  refine xw_lw (fun s24 e_s24 => ?_)
  refine xw_iinc1 dy_keep_20 ic_23_1 (Nat.le_of_ble_eq_true rfl) rfl ?_
  refine xw_goto dy_keep_23 rfl ?_
  refine xw_iload1 dy_keep_2 ?_
  refine xw_bipush dy_keep_3 kb_26 ?_
  refine xw_icmp_ge_f dy_keep_5 rfl (by decide) ?_
  refine xw_aload0 dy_keep_8 ?_
  refine xw_getR dy_keep_9 fl_y_16 (xl_n hn (by decide)) rfl r_18_6 ?_
  refine xw_iload1 dy_keep_12 ?_
  refine xw_aload0 dy_keep_13 ?_
  refine xw_getR dy_keep_14 fl_y_13 (xl_n hn (by decide)) rfl r_18_5 ?_
  refine xw_iload1 dy_keep_17 ?_
  refine xw_iald dy_keep_18 (xl_n hn (by decide)) rfl vc_24_26 cn_24 ?_
  refine xw_iast dy_keep_19 (by decide) (xl_n hn (by decide)) rfl vc_24_26 cn_24 ?_
  refine xw_lw (fun s25 e_s25 => ?_)
  refine xw_iinc1 dy_keep_20 ic_24_1 (Nat.le_of_ble_eq_true rfl) rfl ?_
  refine xw_goto dy_keep_23 rfl ?_
  refine xw_iload1 dy_keep_2 ?_
  refine xw_bipush dy_keep_3 kb_26 ?_
  refine xw_icmp_ge_f dy_keep_5 rfl (by decide) ?_
  refine xw_aload0 dy_keep_8 ?_
  refine xw_getR dy_keep_9 fl_y_16 (xl_n hn (by decide)) rfl r_18_6 ?_
  refine xw_iload1 dy_keep_12 ?_
  refine xw_aload0 dy_keep_13 ?_
  refine xw_getR dy_keep_14 fl_y_13 (xl_n hn (by decide)) rfl r_18_5 ?_
  refine xw_iload1 dy_keep_17 ?_
  refine xw_iald dy_keep_18 (xl_n hn (by decide)) rfl vc_25_26 cn_25 ?_
  refine xw_iast dy_keep_19 (by decide) (xl_n hn (by decide)) rfl vc_25_26 cn_25 ?_
  refine xw_lw (fun s26 e_s26 => ?_)
  refine xw_iinc1 dy_keep_20 ic_25_1 (Nat.le_of_ble_eq_true rfl) rfl ?_
  refine xw_goto dy_keep_23 rfl ?_
  refine xw_iload1 dy_keep_2 ?_
  refine xw_bipush dy_keep_3 kb_26 ?_
  refine xw_icmp_ge_t dy_keep_5 rfl (by decide) ?_
  refine xw_aload0 dy_keep_26 ?_
  refine xw_iconst dy_keep_27 ki_m1 ?_
  refine xw_putI dy_keep_28 fl_y_19 nf_5_9 (by decide) (xl_n hn (by decide)) rfl ?_
  refine xw_lw (fun s27 e_s27 => ?_)
  exact xw_vret dy_keep_31 rfl
theorem jy_keep {σ : xs_S} (hJ : yx_J σ) : yx_J (fy_keep σ) := by
  unfold fy_keep
  refine xj_wl (fun s1 e_s1 => ?_)
  have hJ_s1 : yx_J s1 := by rw [e_s1]; exact (yx_u hJ (by decide))
  refine xj_wl (fun s2 e_s2 => ?_)
  have hJ_s2 : yx_J s2 := by rw [e_s2]; exact (yx_u hJ_s1 (by decide))
  refine xj_wl (fun s3 e_s3 => ?_)
  have hJ_s3 : yx_J s3 := by rw [e_s3]; exact (yx_u hJ_s2 (by decide))
  refine xj_wl (fun s4 e_s4 => ?_)
  have hJ_s4 : yx_J s4 := by rw [e_s4]; exact (yx_u hJ_s3 (by decide))
  refine xj_wl (fun s5 e_s5 => ?_)
  have hJ_s5 : yx_J s5 := by rw [e_s5]; exact (yx_u hJ_s4 (by decide))
  refine xj_wl (fun s6 e_s6 => ?_)
  have hJ_s6 : yx_J s6 := by rw [e_s6]; exact (yx_u hJ_s5 (by decide))
  refine xj_wl (fun s7 e_s7 => ?_)
  have hJ_s7 : yx_J s7 := by rw [e_s7]; exact (yx_u hJ_s6 (by decide))
  refine xj_wl (fun s8 e_s8 => ?_)
  have hJ_s8 : yx_J s8 := by rw [e_s8]; exact (yx_u hJ_s7 (by decide))
  refine xj_wl (fun s9 e_s9 => ?_)
  have hJ_s9 : yx_J s9 := by rw [e_s9]; exact (yx_u hJ_s8 (by decide))
  refine xj_wl (fun s10 e_s10 => ?_)
  have hJ_s10 : yx_J s10 := by rw [e_s10]; exact (yx_u hJ_s9 (by decide))
  refine xj_wl (fun s11 e_s11 => ?_)
  have hJ_s11 : yx_J s11 := by rw [e_s11]; exact (yx_u hJ_s10 (by decide))
  refine xj_wl (fun s12 e_s12 => ?_)
  have hJ_s12 : yx_J s12 := by rw [e_s12]; exact (yx_u hJ_s11 (by decide))
  refine xj_wl (fun s13 e_s13 => ?_)
  have hJ_s13 : yx_J s13 := by rw [e_s13]; exact (yx_u hJ_s12 (by decide))
  refine xj_wl (fun s14 e_s14 => ?_)
  have hJ_s14 : yx_J s14 := by rw [e_s14]; exact (yx_u hJ_s13 (by decide))
  refine xj_wl (fun s15 e_s15 => ?_)
  have hJ_s15 : yx_J s15 := by rw [e_s15]; exact (yx_u hJ_s14 (by decide))
  refine xj_wl (fun s16 e_s16 => ?_)
  have hJ_s16 : yx_J s16 := by rw [e_s16]; exact (yx_u hJ_s15 (by decide))
  refine xj_wl (fun s17 e_s17 => ?_)
  have hJ_s17 : yx_J s17 := by rw [e_s17]; exact (yx_u hJ_s16 (by decide))
  refine xj_wl (fun s18 e_s18 => ?_)
  have hJ_s18 : yx_J s18 := by rw [e_s18]; exact (yx_u hJ_s17 (by decide))
  refine xj_wl (fun s19 e_s19 => ?_)
  have hJ_s19 : yx_J s19 := by rw [e_s19]; exact (yx_u hJ_s18 (by decide))
  refine xj_wl (fun s20 e_s20 => ?_)
  have hJ_s20 : yx_J s20 := by rw [e_s20]; exact (yx_u hJ_s19 (by decide))
  refine xj_wl (fun s21 e_s21 => ?_)
  have hJ_s21 : yx_J s21 := by rw [e_s21]; exact (yx_u hJ_s20 (by decide))
  refine xj_wl (fun s22 e_s22 => ?_)
  have hJ_s22 : yx_J s22 := by rw [e_s22]; exact (yx_u hJ_s21 (by decide))
  refine xj_wl (fun s23 e_s23 => ?_)
  have hJ_s23 : yx_J s23 := by rw [e_s23]; exact (yx_u hJ_s22 (by decide))
  refine xj_wl (fun s24 e_s24 => ?_)
  have hJ_s24 : yx_J s24 := by rw [e_s24]; exact (yx_u hJ_s23 (by decide))
  refine xj_wl (fun s25 e_s25 => ?_)
  have hJ_s25 : yx_J s25 := by rw [e_s25]; exact (jy_k1 hJ_s24)
  refine xj_wl (fun s26 e_s26 => ?_)
  have hJ_s26 : yx_J s26 := by rw [e_s26]; exact (yx_u hJ_s25 (by decide))
  refine xj_wl (fun s27 e_s27 => ?_)
  have hJ_s27 : yx_J s27 := by rw [e_s27]; exact (yx_u hJ_s26 (by decide))
  exact hJ_s27
def fy_restore (σ : xs_S) : xs_S := xl_l ((xu_u σ 20 0 (σ 21 0))) (fun s1 => xl_l ((xu_u s1 20 1 (s1 21 1))) (fun s2 => xl_l ((xu_u s2 20 2 (s2 21 2))) (fun s3 => xl_l ((xu_u s3 20 3 (s3 21 3))) (fun s4 => xl_l ((xu_u s4 20 4 (s4 21 4))) (fun s5 => xl_l ((xu_u s5 20 5 (s5 21 5))) (fun s6 => xl_l ((xu_u s6 20 6 (s6 21 6))) (fun s7 => xl_l ((xu_u s7 20 7 (s7 21 7))) (fun s8 => xl_l ((xu_u s8 20 8 (s8 21 8))) (fun s9 => xl_l ((xu_u s9 20 9 (s9 21 9))) (fun s10 => xl_l ((xu_u s10 20 10 (s10 21 10))) (fun s11 => xl_l ((xu_u s11 20 11 (s11 21 11))) (fun s12 => xl_l ((xu_u s12 20 12 (s12 21 12))) (fun s13 => xl_l ((xu_u s13 20 13 (s13 21 13))) (fun s14 => xl_l ((xu_u s14 20 14 (s14 21 14))) (fun s15 => xl_l ((xu_u s15 20 15 (s15 21 15))) (fun s16 => xl_l ((xu_u s16 20 16 (s16 21 16))) (fun s17 => xl_l ((xu_u s17 20 17 (s17 21 17))) (fun s18 => xl_l ((xu_u s18 20 18 (s18 21 18))) (fun s19 => xl_l ((xu_u s19 20 19 (s19 21 19))) (fun s20 => xl_l ((xu_u s20 20 20 (s20 21 20))) (fun s21 => xl_l ((xu_u s21 20 21 (s21 21 21))) (fun s22 => xl_l ((xu_u s22 20 22 (s22 21 22))) (fun s23 => xl_l ((xu_u s23 20 23 (s23 21 23))) (fun s24 => xl_l ((xu_u s24 20 24 (s24 21 24))) (fun s25 => xl_l ((xu_u s25 20 25 (s25 21 25))) (fun s26 => s26))))))))))))))))))))))))))
set_option maxRecDepth 100000 in
set_option maxHeartbeats 4000000 in
theorem my_restore {l : Launch} {N n u : Nat} {σ : xs_S} (hl : l.stackTraces = false) (hn : 29 ≤ n) : xm_m (xk_k N) l ty_restore [.ref 18] (n, u, σ, xr_0) (xe_w n u (fy_restore σ)) := by
  refine xm_of hl ok_y_restore (Nat.le_of_ble_eq_true rfl) ?_
  show xw_w (xk_k N) l ty_restore 0 [some (.ref 18), none] [] (n, u, σ, xr_0) (xe_w n u (fy_restore σ))
  unfold fy_restore
  refine xw_iconst dy_restore_0 ki_0 ?_
  refine xw_istore1 dy_restore_1 (Nat.le_of_ble_eq_true rfl) rfl ?_
  refine xw_iload1 dy_restore_2 ?_
  refine xw_bipush dy_restore_3 kb_26 ?_
  refine xw_icmp_ge_f dy_restore_5 rfl (by decide) ?_
  refine xw_aload0 dy_restore_8 ?_
  refine xw_getR dy_restore_9 fl_y_13 (xl_n hn (by decide)) rfl r_18_5 ?_
  refine xw_iload1 dy_restore_12 ?_
  refine xw_aload0 dy_restore_13 ?_
  refine xw_getR dy_restore_14 fl_y_16 (xl_n hn (by decide)) rfl r_18_6 ?_
  refine xw_iload1 dy_restore_17 ?_
  refine xw_iald dy_restore_18 (xl_n hn (by decide)) rfl vc_0_26 cn_0 ?_
  refine xw_iast dy_restore_19 (by decide) (xl_n hn (by decide)) rfl vc_0_26 cn_0 ?_
  refine xw_lw (fun s1 e_s1 => ?_)
  refine xw_iinc1 dy_restore_20 ic_0_1 (Nat.le_of_ble_eq_true rfl) rfl ?_
  refine xw_goto dy_restore_23 rfl ?_
  refine xw_iload1 dy_restore_2 ?_
  refine xw_bipush dy_restore_3 kb_26 ?_
  refine xw_icmp_ge_f dy_restore_5 rfl (by decide) ?_
  refine xw_aload0 dy_restore_8 ?_
  refine xw_getR dy_restore_9 fl_y_13 (xl_n hn (by decide)) rfl r_18_5 ?_
  refine xw_iload1 dy_restore_12 ?_
  refine xw_aload0 dy_restore_13 ?_
  refine xw_getR dy_restore_14 fl_y_16 (xl_n hn (by decide)) rfl r_18_6 ?_
  refine xw_iload1 dy_restore_17 ?_
  refine xw_iald dy_restore_18 (xl_n hn (by decide)) rfl vc_1_26 cn_1 ?_
  refine xw_iast dy_restore_19 (by decide) (xl_n hn (by decide)) rfl vc_1_26 cn_1 ?_
  refine xw_lw (fun s2 e_s2 => ?_)
  refine xw_iinc1 dy_restore_20 ic_1_1 (Nat.le_of_ble_eq_true rfl) rfl ?_
  refine xw_goto dy_restore_23 rfl ?_
  refine xw_iload1 dy_restore_2 ?_
  refine xw_bipush dy_restore_3 kb_26 ?_
  refine xw_icmp_ge_f dy_restore_5 rfl (by decide) ?_
  refine xw_aload0 dy_restore_8 ?_
  refine xw_getR dy_restore_9 fl_y_13 (xl_n hn (by decide)) rfl r_18_5 ?_
  refine xw_iload1 dy_restore_12 ?_
  refine xw_aload0 dy_restore_13 ?_
  refine xw_getR dy_restore_14 fl_y_16 (xl_n hn (by decide)) rfl r_18_6 ?_
  refine xw_iload1 dy_restore_17 ?_
  refine xw_iald dy_restore_18 (xl_n hn (by decide)) rfl vc_2_26 cn_2 ?_
  refine xw_iast dy_restore_19 (by decide) (xl_n hn (by decide)) rfl vc_2_26 cn_2 ?_
  refine xw_lw (fun s3 e_s3 => ?_)
  refine xw_iinc1 dy_restore_20 ic_2_1 (Nat.le_of_ble_eq_true rfl) rfl ?_
  refine xw_goto dy_restore_23 rfl ?_
  refine xw_iload1 dy_restore_2 ?_
  refine xw_bipush dy_restore_3 kb_26 ?_
  refine xw_icmp_ge_f dy_restore_5 rfl (by decide) ?_
  refine xw_aload0 dy_restore_8 ?_
  refine xw_getR dy_restore_9 fl_y_13 (xl_n hn (by decide)) rfl r_18_5 ?_
  refine xw_iload1 dy_restore_12 ?_
  refine xw_aload0 dy_restore_13 ?_
  refine xw_getR dy_restore_14 fl_y_16 (xl_n hn (by decide)) rfl r_18_6 ?_
  refine xw_iload1 dy_restore_17 ?_
  refine xw_iald dy_restore_18 (xl_n hn (by decide)) rfl vc_3_26 cn_3 ?_
  refine xw_iast dy_restore_19 (by decide) (xl_n hn (by decide)) rfl vc_3_26 cn_3 ?_
  refine xw_lw (fun s4 e_s4 => ?_)
  refine xw_iinc1 dy_restore_20 ic_3_1 (Nat.le_of_ble_eq_true rfl) rfl ?_
  refine xw_goto dy_restore_23 rfl ?_
  refine xw_iload1 dy_restore_2 ?_
  refine xw_bipush dy_restore_3 kb_26 ?_
  refine xw_icmp_ge_f dy_restore_5 rfl (by decide) ?_
  refine xw_aload0 dy_restore_8 ?_
  refine xw_getR dy_restore_9 fl_y_13 (xl_n hn (by decide)) rfl r_18_5 ?_
  refine xw_iload1 dy_restore_12 ?_
  refine xw_aload0 dy_restore_13 ?_
  refine xw_getR dy_restore_14 fl_y_16 (xl_n hn (by decide)) rfl r_18_6 ?_
  refine xw_iload1 dy_restore_17 ?_
  refine xw_iald dy_restore_18 (xl_n hn (by decide)) rfl vc_4_26 cn_4 ?_
  refine xw_iast dy_restore_19 (by decide) (xl_n hn (by decide)) rfl vc_4_26 cn_4 ?_
  refine xw_lw (fun s5 e_s5 => ?_)
  refine xw_iinc1 dy_restore_20 ic_4_1 (Nat.le_of_ble_eq_true rfl) rfl ?_
  refine xw_goto dy_restore_23 rfl ?_
  refine xw_iload1 dy_restore_2 ?_
  refine xw_bipush dy_restore_3 kb_26 ?_
  refine xw_icmp_ge_f dy_restore_5 rfl (by decide) ?_
  refine xw_aload0 dy_restore_8 ?_
  refine xw_getR dy_restore_9 fl_y_13 (xl_n hn (by decide)) rfl r_18_5 ?_
  refine xw_iload1 dy_restore_12 ?_
  refine xw_aload0 dy_restore_13 ?_
  refine xw_getR dy_restore_14 fl_y_16 (xl_n hn (by decide)) rfl r_18_6 ?_
  refine xw_iload1 dy_restore_17 ?_
  refine xw_iald dy_restore_18 (xl_n hn (by decide)) rfl vc_5_26 cn_5 ?_
  refine xw_iast dy_restore_19 (by decide) (xl_n hn (by decide)) rfl vc_5_26 cn_5 ?_
  refine xw_lw (fun s6 e_s6 => ?_)
  refine xw_iinc1 dy_restore_20 ic_5_1 (Nat.le_of_ble_eq_true rfl) rfl ?_
  refine xw_goto dy_restore_23 rfl ?_
  refine xw_iload1 dy_restore_2 ?_
  refine xw_bipush dy_restore_3 kb_26 ?_
  refine xw_icmp_ge_f dy_restore_5 rfl (by decide) ?_
  refine xw_aload0 dy_restore_8 ?_
  refine xw_getR dy_restore_9 fl_y_13 (xl_n hn (by decide)) rfl r_18_5 ?_
  refine xw_iload1 dy_restore_12 ?_
  refine xw_aload0 dy_restore_13 ?_
  refine xw_getR dy_restore_14 fl_y_16 (xl_n hn (by decide)) rfl r_18_6 ?_
  refine xw_iload1 dy_restore_17 ?_
  refine xw_iald dy_restore_18 (xl_n hn (by decide)) rfl vc_6_26 cn_6 ?_
  refine xw_iast dy_restore_19 (by decide) (xl_n hn (by decide)) rfl vc_6_26 cn_6 ?_
  refine xw_lw (fun s7 e_s7 => ?_)
  refine xw_iinc1 dy_restore_20 ic_6_1 (Nat.le_of_ble_eq_true rfl) rfl ?_
  refine xw_goto dy_restore_23 rfl ?_
  refine xw_iload1 dy_restore_2 ?_
  refine xw_bipush dy_restore_3 kb_26 ?_
  refine xw_icmp_ge_f dy_restore_5 rfl (by decide) ?_
  refine xw_aload0 dy_restore_8 ?_
  refine xw_getR dy_restore_9 fl_y_13 (xl_n hn (by decide)) rfl r_18_5 ?_
  refine xw_iload1 dy_restore_12 ?_
  refine xw_aload0 dy_restore_13 ?_
  refine xw_getR dy_restore_14 fl_y_16 (xl_n hn (by decide)) rfl r_18_6 ?_
  refine xw_iload1 dy_restore_17 ?_
  refine xw_iald dy_restore_18 (xl_n hn (by decide)) rfl vc_7_26 cn_7 ?_
  refine xw_iast dy_restore_19 (by decide) (xl_n hn (by decide)) rfl vc_7_26 cn_7 ?_
  refine xw_lw (fun s8 e_s8 => ?_)
  refine xw_iinc1 dy_restore_20 ic_7_1 (Nat.le_of_ble_eq_true rfl) rfl ?_
  refine xw_goto dy_restore_23 rfl ?_
  refine xw_iload1 dy_restore_2 ?_
  refine xw_bipush dy_restore_3 kb_26 ?_
  refine xw_icmp_ge_f dy_restore_5 rfl (by decide) ?_
  refine xw_aload0 dy_restore_8 ?_
  refine xw_getR dy_restore_9 fl_y_13 (xl_n hn (by decide)) rfl r_18_5 ?_
  refine xw_iload1 dy_restore_12 ?_
  refine xw_aload0 dy_restore_13 ?_
  refine xw_getR dy_restore_14 fl_y_16 (xl_n hn (by decide)) rfl r_18_6 ?_
  refine xw_iload1 dy_restore_17 ?_
  refine xw_iald dy_restore_18 (xl_n hn (by decide)) rfl vc_8_26 cn_8 ?_
  refine xw_iast dy_restore_19 (by decide) (xl_n hn (by decide)) rfl vc_8_26 cn_8 ?_
  refine xw_lw (fun s9 e_s9 => ?_)
  refine xw_iinc1 dy_restore_20 ic_8_1 (Nat.le_of_ble_eq_true rfl) rfl ?_
  refine xw_goto dy_restore_23 rfl ?_
  refine xw_iload1 dy_restore_2 ?_
  refine xw_bipush dy_restore_3 kb_26 ?_
  refine xw_icmp_ge_f dy_restore_5 rfl (by decide) ?_
  refine xw_aload0 dy_restore_8 ?_
  refine xw_getR dy_restore_9 fl_y_13 (xl_n hn (by decide)) rfl r_18_5 ?_
  refine xw_iload1 dy_restore_12 ?_
  refine xw_aload0 dy_restore_13 ?_
  refine xw_getR dy_restore_14 fl_y_16 (xl_n hn (by decide)) rfl r_18_6 ?_
  refine xw_iload1 dy_restore_17 ?_
  refine xw_iald dy_restore_18 (xl_n hn (by decide)) rfl vc_9_26 cn_9 ?_
  refine xw_iast dy_restore_19 (by decide) (xl_n hn (by decide)) rfl vc_9_26 cn_9 ?_
  refine xw_lw (fun s10 e_s10 => ?_)
  refine xw_iinc1 dy_restore_20 ic_9_1 (Nat.le_of_ble_eq_true rfl) rfl ?_
  refine xw_goto dy_restore_23 rfl ?_
  refine xw_iload1 dy_restore_2 ?_
  refine xw_bipush dy_restore_3 kb_26 ?_
  refine xw_icmp_ge_f dy_restore_5 rfl (by decide) ?_
  refine xw_aload0 dy_restore_8 ?_
  refine xw_getR dy_restore_9 fl_y_13 (xl_n hn (by decide)) rfl r_18_5 ?_
  refine xw_iload1 dy_restore_12 ?_
  refine xw_aload0 dy_restore_13 ?_
  refine xw_getR dy_restore_14 fl_y_16 (xl_n hn (by decide)) rfl r_18_6 ?_
  refine xw_iload1 dy_restore_17 ?_
  refine xw_iald dy_restore_18 (xl_n hn (by decide)) rfl vc_10_26 cn_10 ?_
  refine xw_iast dy_restore_19 (by decide) (xl_n hn (by decide)) rfl vc_10_26 cn_10 ?_
  refine xw_lw (fun s11 e_s11 => ?_)
  refine xw_iinc1 dy_restore_20 ic_10_1 (Nat.le_of_ble_eq_true rfl) rfl ?_
  refine xw_goto dy_restore_23 rfl ?_
  refine xw_iload1 dy_restore_2 ?_
  refine xw_bipush dy_restore_3 kb_26 ?_
  refine xw_icmp_ge_f dy_restore_5 rfl (by decide) ?_
  refine xw_aload0 dy_restore_8 ?_
  refine xw_getR dy_restore_9 fl_y_13 (xl_n hn (by decide)) rfl r_18_5 ?_
  refine xw_iload1 dy_restore_12 ?_
  refine xw_aload0 dy_restore_13 ?_
  refine xw_getR dy_restore_14 fl_y_16 (xl_n hn (by decide)) rfl r_18_6 ?_
  refine xw_iload1 dy_restore_17 ?_
  refine xw_iald dy_restore_18 (xl_n hn (by decide)) rfl vc_11_26 cn_11 ?_
  refine xw_iast dy_restore_19 (by decide) (xl_n hn (by decide)) rfl vc_11_26 cn_11 ?_
  refine xw_lw (fun s12 e_s12 => ?_)
  refine xw_iinc1 dy_restore_20 ic_11_1 (Nat.le_of_ble_eq_true rfl) rfl ?_
  refine xw_goto dy_restore_23 rfl ?_
  refine xw_iload1 dy_restore_2 ?_
  refine xw_bipush dy_restore_3 kb_26 ?_
  refine xw_icmp_ge_f dy_restore_5 rfl (by decide) ?_
  refine xw_aload0 dy_restore_8 ?_
  refine xw_getR dy_restore_9 fl_y_13 (xl_n hn (by decide)) rfl r_18_5 ?_
  refine xw_iload1 dy_restore_12 ?_
  refine xw_aload0 dy_restore_13 ?_
  refine xw_getR dy_restore_14 fl_y_16 (xl_n hn (by decide)) rfl r_18_6 ?_
  refine xw_iload1 dy_restore_17 ?_
  refine xw_iald dy_restore_18 (xl_n hn (by decide)) rfl vc_12_26 cn_12 ?_
  refine xw_iast dy_restore_19 (by decide) (xl_n hn (by decide)) rfl vc_12_26 cn_12 ?_
  refine xw_lw (fun s13 e_s13 => ?_)
  refine xw_iinc1 dy_restore_20 ic_12_1 (Nat.le_of_ble_eq_true rfl) rfl ?_
  refine xw_goto dy_restore_23 rfl ?_
  refine xw_iload1 dy_restore_2 ?_
  refine xw_bipush dy_restore_3 kb_26 ?_
  refine xw_icmp_ge_f dy_restore_5 rfl (by decide) ?_
  refine xw_aload0 dy_restore_8 ?_
  refine xw_getR dy_restore_9 fl_y_13 (xl_n hn (by decide)) rfl r_18_5 ?_
  refine xw_iload1 dy_restore_12 ?_
  refine xw_aload0 dy_restore_13 ?_
  refine xw_getR dy_restore_14 fl_y_16 (xl_n hn (by decide)) rfl r_18_6 ?_
  refine xw_iload1 dy_restore_17 ?_
  refine xw_iald dy_restore_18 (xl_n hn (by decide)) rfl vc_13_26 cn_13 ?_
  refine xw_iast dy_restore_19 (by decide) (xl_n hn (by decide)) rfl vc_13_26 cn_13 ?_
  refine xw_lw (fun s14 e_s14 => ?_)
  refine xw_iinc1 dy_restore_20 ic_13_1 (Nat.le_of_ble_eq_true rfl) rfl ?_
  refine xw_goto dy_restore_23 rfl ?_
  refine xw_iload1 dy_restore_2 ?_
  refine xw_bipush dy_restore_3 kb_26 ?_
  refine xw_icmp_ge_f dy_restore_5 rfl (by decide) ?_
  refine xw_aload0 dy_restore_8 ?_
  refine xw_getR dy_restore_9 fl_y_13 (xl_n hn (by decide)) rfl r_18_5 ?_
  refine xw_iload1 dy_restore_12 ?_
  refine xw_aload0 dy_restore_13 ?_
  refine xw_getR dy_restore_14 fl_y_16 (xl_n hn (by decide)) rfl r_18_6 ?_
  refine xw_iload1 dy_restore_17 ?_
  refine xw_iald dy_restore_18 (xl_n hn (by decide)) rfl vc_14_26 cn_14 ?_
  refine xw_iast dy_restore_19 (by decide) (xl_n hn (by decide)) rfl vc_14_26 cn_14 ?_
  refine xw_lw (fun s15 e_s15 => ?_)
  refine xw_iinc1 dy_restore_20 ic_14_1 (Nat.le_of_ble_eq_true rfl) rfl ?_
  refine xw_goto dy_restore_23 rfl ?_
  refine xw_iload1 dy_restore_2 ?_
  refine xw_bipush dy_restore_3 kb_26 ?_
  refine xw_icmp_ge_f dy_restore_5 rfl (by decide) ?_
  refine xw_aload0 dy_restore_8 ?_
  refine xw_getR dy_restore_9 fl_y_13 (xl_n hn (by decide)) rfl r_18_5 ?_
  refine xw_iload1 dy_restore_12 ?_
  refine xw_aload0 dy_restore_13 ?_
  refine xw_getR dy_restore_14 fl_y_16 (xl_n hn (by decide)) rfl r_18_6 ?_
  refine xw_iload1 dy_restore_17 ?_
  refine xw_iald dy_restore_18 (xl_n hn (by decide)) rfl vc_15_26 cn_15 ?_
  refine xw_iast dy_restore_19 (by decide) (xl_n hn (by decide)) rfl vc_15_26 cn_15 ?_
  refine xw_lw (fun s16 e_s16 => ?_)
  refine xw_iinc1 dy_restore_20 ic_15_1 (Nat.le_of_ble_eq_true rfl) rfl ?_
  refine xw_goto dy_restore_23 rfl ?_
  refine xw_iload1 dy_restore_2 ?_
  refine xw_bipush dy_restore_3 kb_26 ?_
  refine xw_icmp_ge_f dy_restore_5 rfl (by decide) ?_
  refine xw_aload0 dy_restore_8 ?_
  refine xw_getR dy_restore_9 fl_y_13 (xl_n hn (by decide)) rfl r_18_5 ?_
  refine xw_iload1 dy_restore_12 ?_
  refine xw_aload0 dy_restore_13 ?_
  refine xw_getR dy_restore_14 fl_y_16 (xl_n hn (by decide)) rfl r_18_6 ?_
  refine xw_iload1 dy_restore_17 ?_
  refine xw_iald dy_restore_18 (xl_n hn (by decide)) rfl vc_16_26 cn_16 ?_
  refine xw_iast dy_restore_19 (by decide) (xl_n hn (by decide)) rfl vc_16_26 cn_16 ?_
  refine xw_lw (fun s17 e_s17 => ?_)
  refine xw_iinc1 dy_restore_20 ic_16_1 (Nat.le_of_ble_eq_true rfl) rfl ?_
  refine xw_goto dy_restore_23 rfl ?_
  refine xw_iload1 dy_restore_2 ?_
  refine xw_bipush dy_restore_3 kb_26 ?_
  refine xw_icmp_ge_f dy_restore_5 rfl (by decide) ?_
  refine xw_aload0 dy_restore_8 ?_
  refine xw_getR dy_restore_9 fl_y_13 (xl_n hn (by decide)) rfl r_18_5 ?_
  refine xw_iload1 dy_restore_12 ?_
  refine xw_aload0 dy_restore_13 ?_
  refine xw_getR dy_restore_14 fl_y_16 (xl_n hn (by decide)) rfl r_18_6 ?_
  refine xw_iload1 dy_restore_17 ?_
  refine xw_iald dy_restore_18 (xl_n hn (by decide)) rfl vc_17_26 cn_17 ?_
  refine xw_iast dy_restore_19 (by decide) (xl_n hn (by decide)) rfl vc_17_26 cn_17 ?_
  refine xw_lw (fun s18 e_s18 => ?_)
  refine xw_iinc1 dy_restore_20 ic_17_1 (Nat.le_of_ble_eq_true rfl) rfl ?_
  refine xw_goto dy_restore_23 rfl ?_
  refine xw_iload1 dy_restore_2 ?_
  refine xw_bipush dy_restore_3 kb_26 ?_
  refine xw_icmp_ge_f dy_restore_5 rfl (by decide) ?_
  refine xw_aload0 dy_restore_8 ?_
  refine xw_getR dy_restore_9 fl_y_13 (xl_n hn (by decide)) rfl r_18_5 ?_
  refine xw_iload1 dy_restore_12 ?_
  refine xw_aload0 dy_restore_13 ?_
  refine xw_getR dy_restore_14 fl_y_16 (xl_n hn (by decide)) rfl r_18_6 ?_
  refine xw_iload1 dy_restore_17 ?_
  refine xw_iald dy_restore_18 (xl_n hn (by decide)) rfl vc_18_26 cn_18 ?_
  refine xw_iast dy_restore_19 (by decide) (xl_n hn (by decide)) rfl vc_18_26 cn_18 ?_
  refine xw_lw (fun s19 e_s19 => ?_)
  refine xw_iinc1 dy_restore_20 ic_18_1 (Nat.le_of_ble_eq_true rfl) rfl ?_
  refine xw_goto dy_restore_23 rfl ?_
  refine xw_iload1 dy_restore_2 ?_
  refine xw_bipush dy_restore_3 kb_26 ?_
  refine xw_icmp_ge_f dy_restore_5 rfl (by decide) ?_
  refine xw_aload0 dy_restore_8 ?_
  refine xw_getR dy_restore_9 fl_y_13 (xl_n hn (by decide)) rfl r_18_5 ?_
  refine xw_iload1 dy_restore_12 ?_
  refine xw_aload0 dy_restore_13 ?_
  refine xw_getR dy_restore_14 fl_y_16 (xl_n hn (by decide)) rfl r_18_6 ?_
  refine xw_iload1 dy_restore_17 ?_
  refine xw_iald dy_restore_18 (xl_n hn (by decide)) rfl vc_19_26 cn_19 ?_
  refine xw_iast dy_restore_19 (by decide) (xl_n hn (by decide)) rfl vc_19_26 cn_19 ?_
  refine xw_lw (fun s20 e_s20 => ?_)
  refine xw_iinc1 dy_restore_20 ic_19_1 (Nat.le_of_ble_eq_true rfl) rfl ?_
  refine xw_goto dy_restore_23 rfl ?_
  refine xw_iload1 dy_restore_2 ?_
  refine xw_bipush dy_restore_3 kb_26 ?_
  refine xw_icmp_ge_f dy_restore_5 rfl (by decide) ?_
  refine xw_aload0 dy_restore_8 ?_
  refine xw_getR dy_restore_9 fl_y_13 (xl_n hn (by decide)) rfl r_18_5 ?_
  refine xw_iload1 dy_restore_12 ?_
  refine xw_aload0 dy_restore_13 ?_
  refine xw_getR dy_restore_14 fl_y_16 (xl_n hn (by decide)) rfl r_18_6 ?_
  refine xw_iload1 dy_restore_17 ?_
  refine xw_iald dy_restore_18 (xl_n hn (by decide)) rfl vc_20_26 cn_20 ?_
  refine xw_iast dy_restore_19 (by decide) (xl_n hn (by decide)) rfl vc_20_26 cn_20 ?_
  refine xw_lw (fun s21 e_s21 => ?_)
  refine xw_iinc1 dy_restore_20 ic_20_1 (Nat.le_of_ble_eq_true rfl) rfl ?_
  refine xw_goto dy_restore_23 rfl ?_
  refine xw_iload1 dy_restore_2 ?_
  refine xw_bipush dy_restore_3 kb_26 ?_
  refine xw_icmp_ge_f dy_restore_5 rfl (by decide) ?_
  refine xw_aload0 dy_restore_8 ?_
  refine xw_getR dy_restore_9 fl_y_13 (xl_n hn (by decide)) rfl r_18_5 ?_
  refine xw_iload1 dy_restore_12 ?_
  refine xw_aload0 dy_restore_13 ?_
  refine xw_getR dy_restore_14 fl_y_16 (xl_n hn (by decide)) rfl r_18_6 ?_
  refine xw_iload1 dy_restore_17 ?_
  refine xw_iald dy_restore_18 (xl_n hn (by decide)) rfl vc_21_26 cn_21 ?_
  refine xw_iast dy_restore_19 (by decide) (xl_n hn (by decide)) rfl vc_21_26 cn_21 ?_
  refine xw_lw (fun s22 e_s22 => ?_)
  refine xw_iinc1 dy_restore_20 ic_21_1 (Nat.le_of_ble_eq_true rfl) rfl ?_
  refine xw_goto dy_restore_23 rfl ?_
  refine xw_iload1 dy_restore_2 ?_
  refine xw_bipush dy_restore_3 kb_26 ?_
  refine xw_icmp_ge_f dy_restore_5 rfl (by decide) ?_
  refine xw_aload0 dy_restore_8 ?_
  refine xw_getR dy_restore_9 fl_y_13 (xl_n hn (by decide)) rfl r_18_5 ?_
  refine xw_iload1 dy_restore_12 ?_
  refine xw_aload0 dy_restore_13 ?_
  refine xw_getR dy_restore_14 fl_y_16 (xl_n hn (by decide)) rfl r_18_6 ?_
  refine xw_iload1 dy_restore_17 ?_
  refine xw_iald dy_restore_18 (xl_n hn (by decide)) rfl vc_22_26 cn_22 ?_
  refine xw_iast dy_restore_19 (by decide) (xl_n hn (by decide)) rfl vc_22_26 cn_22 ?_
  refine xw_lw (fun s23 e_s23 => ?_)
  refine xw_iinc1 dy_restore_20 ic_22_1 (Nat.le_of_ble_eq_true rfl) rfl ?_
  refine xw_goto dy_restore_23 rfl ?_
  refine xw_iload1 dy_restore_2 ?_
  refine xw_bipush dy_restore_3 kb_26 ?_
  refine xw_icmp_ge_f dy_restore_5 rfl (by decide) ?_
  refine xw_aload0 dy_restore_8 ?_
  refine xw_getR dy_restore_9 fl_y_13 (xl_n hn (by decide)) rfl r_18_5 ?_
  refine xw_iload1 dy_restore_12 ?_
  refine xw_aload0 dy_restore_13 ?_
  refine xw_getR dy_restore_14 fl_y_16 (xl_n hn (by decide)) rfl r_18_6 ?_
  refine xw_iload1 dy_restore_17 ?_
  refine xw_iald dy_restore_18 (xl_n hn (by decide)) rfl vc_23_26 cn_23 ?_
  refine xw_iast dy_restore_19 (by decide) (xl_n hn (by decide)) rfl vc_23_26 cn_23 ?_
  refine xw_lw (fun s24 e_s24 => ?_)
  refine xw_iinc1 dy_restore_20 ic_23_1 (Nat.le_of_ble_eq_true rfl) rfl ?_
  refine xw_goto dy_restore_23 rfl ?_
  refine xw_iload1 dy_restore_2 ?_
  refine xw_bipush dy_restore_3 kb_26 ?_
  refine xw_icmp_ge_f dy_restore_5 rfl (by decide) ?_
  refine xw_aload0 dy_restore_8 ?_
  refine xw_getR dy_restore_9 fl_y_13 (xl_n hn (by decide)) rfl r_18_5 ?_
  refine xw_iload1 dy_restore_12 ?_
  refine xw_aload0 dy_restore_13 ?_
  refine xw_getR dy_restore_14 fl_y_16 (xl_n hn (by decide)) rfl r_18_6 ?_
  refine xw_iload1 dy_restore_17 ?_
  refine xw_iald dy_restore_18 (xl_n hn (by decide)) rfl vc_24_26 cn_24 ?_
  refine xw_iast dy_restore_19 (by decide) (xl_n hn (by decide)) rfl vc_24_26 cn_24 ?_
  refine xw_lw (fun s25 e_s25 => ?_)
  refine xw_iinc1 dy_restore_20 ic_24_1 (Nat.le_of_ble_eq_true rfl) rfl ?_
  refine xw_goto dy_restore_23 rfl ?_
  refine xw_iload1 dy_restore_2 ?_
  refine xw_bipush dy_restore_3 kb_26 ?_
  refine xw_icmp_ge_f dy_restore_5 rfl (by decide) ?_
  refine xw_aload0 dy_restore_8 ?_
  refine xw_getR dy_restore_9 fl_y_13 (xl_n hn (by decide)) rfl r_18_5 ?_
  refine xw_iload1 dy_restore_12 ?_
  refine xw_aload0 dy_restore_13 ?_
  refine xw_getR dy_restore_14 fl_y_16 (xl_n hn (by decide)) rfl r_18_6 ?_
  refine xw_iload1 dy_restore_17 ?_
  refine xw_iald dy_restore_18 (xl_n hn (by decide)) rfl vc_25_26 cn_25 ?_
  refine xw_iast dy_restore_19 (by decide) (xl_n hn (by decide)) rfl vc_25_26 cn_25 ?_
  refine xw_lw (fun s26 e_s26 => ?_)
  refine xw_iinc1 dy_restore_20 ic_25_1 (Nat.le_of_ble_eq_true rfl) rfl ?_
  refine xw_goto dy_restore_23 rfl ?_
  refine xw_iload1 dy_restore_2 ?_
  refine xw_bipush dy_restore_3 kb_26 ?_
  refine xw_icmp_ge_t dy_restore_5 rfl (by decide) ?_
  exact xw_vret dy_restore_26 rfl
theorem jy_restore {σ : xs_S} (hJ : yx_J σ) : yx_J (fy_restore σ) := by
  unfold fy_restore
  refine xj_wl (fun s1 e_s1 => ?_)
  have hJ_s1 : yx_J s1 := by rw [e_s1]; exact (yx_u hJ (by decide))
  refine xj_wl (fun s2 e_s2 => ?_)
  have hJ_s2 : yx_J s2 := by rw [e_s2]; exact (yx_u hJ_s1 (by decide))
  refine xj_wl (fun s3 e_s3 => ?_)
  have hJ_s3 : yx_J s3 := by rw [e_s3]; exact (yx_u hJ_s2 (by decide))
  refine xj_wl (fun s4 e_s4 => ?_)
  have hJ_s4 : yx_J s4 := by rw [e_s4]; exact (yx_u hJ_s3 (by decide))
  refine xj_wl (fun s5 e_s5 => ?_)
  have hJ_s5 : yx_J s5 := by rw [e_s5]; exact (yx_u hJ_s4 (by decide))
  refine xj_wl (fun s6 e_s6 => ?_)
  have hJ_s6 : yx_J s6 := by rw [e_s6]; exact (yx_u hJ_s5 (by decide))
  refine xj_wl (fun s7 e_s7 => ?_)
  have hJ_s7 : yx_J s7 := by rw [e_s7]; exact (yx_u hJ_s6 (by decide))
  refine xj_wl (fun s8 e_s8 => ?_)
  have hJ_s8 : yx_J s8 := by rw [e_s8]; exact (yx_u hJ_s7 (by decide))
  refine xj_wl (fun s9 e_s9 => ?_)
  have hJ_s9 : yx_J s9 := by rw [e_s9]; exact (yx_u hJ_s8 (by decide))
  refine xj_wl (fun s10 e_s10 => ?_)
  have hJ_s10 : yx_J s10 := by rw [e_s10]; exact (yx_u hJ_s9 (by decide))
  refine xj_wl (fun s11 e_s11 => ?_)
  have hJ_s11 : yx_J s11 := by rw [e_s11]; exact (yx_u hJ_s10 (by decide))
  refine xj_wl (fun s12 e_s12 => ?_)
  have hJ_s12 : yx_J s12 := by rw [e_s12]; exact (yx_u hJ_s11 (by decide))
  refine xj_wl (fun s13 e_s13 => ?_)
  have hJ_s13 : yx_J s13 := by rw [e_s13]; exact (yx_u hJ_s12 (by decide))
  refine xj_wl (fun s14 e_s14 => ?_)
  have hJ_s14 : yx_J s14 := by rw [e_s14]; exact (yx_u hJ_s13 (by decide))
  refine xj_wl (fun s15 e_s15 => ?_)
  have hJ_s15 : yx_J s15 := by rw [e_s15]; exact (yx_u hJ_s14 (by decide))
  refine xj_wl (fun s16 e_s16 => ?_)
  have hJ_s16 : yx_J s16 := by rw [e_s16]; exact (yx_u hJ_s15 (by decide))
  refine xj_wl (fun s17 e_s17 => ?_)
  have hJ_s17 : yx_J s17 := by rw [e_s17]; exact (yx_u hJ_s16 (by decide))
  refine xj_wl (fun s18 e_s18 => ?_)
  have hJ_s18 : yx_J s18 := by rw [e_s18]; exact (yx_u hJ_s17 (by decide))
  refine xj_wl (fun s19 e_s19 => ?_)
  have hJ_s19 : yx_J s19 := by rw [e_s19]; exact (yx_u hJ_s18 (by decide))
  refine xj_wl (fun s20 e_s20 => ?_)
  have hJ_s20 : yx_J s20 := by rw [e_s20]; exact (yx_u hJ_s19 (by decide))
  refine xj_wl (fun s21 e_s21 => ?_)
  have hJ_s21 : yx_J s21 := by rw [e_s21]; exact (yx_u hJ_s20 (by decide))
  refine xj_wl (fun s22 e_s22 => ?_)
  have hJ_s22 : yx_J s22 := by rw [e_s22]; exact (yx_u hJ_s21 (by decide))
  refine xj_wl (fun s23 e_s23 => ?_)
  have hJ_s23 : yx_J s23 := by rw [e_s23]; exact (yx_u hJ_s22 (by decide))
  refine xj_wl (fun s24 e_s24 => ?_)
  have hJ_s24 : yx_J s24 := by rw [e_s24]; exact (yx_u hJ_s23 (by decide))
  refine xj_wl (fun s25 e_s25 => ?_)
  have hJ_s25 : yx_J s25 := by rw [e_s25]; exact (jy_k2 hJ_s24)
  refine xj_wl (fun s26 e_s26 => ?_)
  have hJ_s26 : yx_J s26 := by rw [e_s26]; exact (yx_u hJ_s25 (by decide))
  exact hJ_s26
