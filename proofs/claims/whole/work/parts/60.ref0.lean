def fy_isRaised (σ : xs_S) : Int32 := (if (σ 18 9) < 0 then (0 : Int32) else (1 : Int32))
set_option maxRecDepth 100000 in
set_option maxHeartbeats 4000000 in
theorem my_isRaised {l : Launch} {N n u : Nat} {σ : xs_S} (hl : l.stackTraces = false) (hn : 29 ≤ n) : xm_m (xk_k N) l ty_isRaised [.ref 18] (n, u, σ, xr_0) (xe_v ei_i n u σ (fy_isRaised σ)) := by
  refine xm_of hl ok_y_isRaised (Nat.le_of_ble_eq_true rfl) ?_
  show xw_w (xk_k N) l ty_isRaised 0 [some (.ref 18)] [] (n, u, σ, xr_0) (xe_v ei_i n u σ (fy_isRaised σ))
  unfold fy_isRaised
  refine xw_aload0 dy_isRaised_0 ?_
  refine xw_getI dy_isRaised_1 fl_y_19 (by decide) (xl_n hn (by decide)) rfl ?_
  refine xw_if_lt' dy_isRaised_4 rfl (fun h1 => ?_) (fun h1 => ?_)
  · refine xw_iconst dy_isRaised_11 ki_0 ?_
    exact xw_zret dy_isRaised_12 rfl (by decide)
  · refine xw_iconst dy_isRaised_7 ki_1 ?_
    refine xw_goto dy_isRaised_8 rfl ?_
    exact xw_zret dy_isRaised_12 rfl (by decide)
def fy_raise (a1 : Int32) (a2 : Int32) (σ : xs_S) : xs_S := (if 0 ≤ (σ 18 9) then σ else xl_l ((xu_u σ 18 9 (((65536 : Int32) * a1) + a2))) (fun s2 => s2))
set_option maxRecDepth 100000 in
set_option maxHeartbeats 4000000 in
theorem my_raise {l : Launch} {N n u : Nat} {a1 : Int32} {a2 : Int32} {σ : xs_S} (hl : l.stackTraces = false) (hn : 29 ≤ n) : xm_m (xk_k N) l ty_raise [.ref 18, .int a1, .int a2] (n, u, σ, xr_0) (xe_w n u (fy_raise a1 a2 σ)) := by
  refine xm_of hl ok_y_raise (Nat.le_of_ble_eq_true rfl) ?_
  show xw_w (xk_k N) l ty_raise 0 [some (.ref 18), some (.int a1), some (.int a2)] [] (n, u, σ, xr_0) (xe_w n u (fy_raise a1 a2 σ))
  unfold fy_raise
  refine xw_aload0 dy_raise_0 ?_
  refine xw_getI dy_raise_1 fl_y_19 (by decide) (xl_n hn (by decide)) rfl ?_
  refine xw_if_ge' dy_raise_4 rfl (fun h1 => ?_) (fun h1 => ?_)
  · exact xw_vret dy_raise_17 rfl
  · refine xw_aload0 dy_raise_7 ?_
    refine xw_ldc dy_raise_8 kc_y_45 ?_
    refine xw_iload1 dy_raise_10 ?_
    refine xw_imul dy_raise_11 ?_
    refine xw_iload2 dy_raise_12 ?_
    refine xw_iadd dy_raise_13 ?_
    refine xw_putI dy_raise_14 fl_y_19 nf_5_9 (by decide) (xl_n hn (by decide)) rfl ?_
    refine xw_lw (fun s2 e_s2 => ?_)
    exact xw_vret dy_raise_17 rfl
theorem jy_raise {a1 : Int32} {a2 : Int32} {σ : xs_S} (hJ : yx_J σ) : yx_J (fy_raise a1 a2 σ) := by
  unfold fy_raise
  refine xj_wf (fun h1 => ?_) (fun h1 => ?_)
  · exact hJ
  · refine xj_wl (fun s2 e_s2 => ?_)
    have hJ_s2 : yx_J s2 := by rw [e_s2]; exact (yx_u hJ (by decide))
    exact hJ_s2
def fy_located (a1 : Int32) (a2 : Int32) (a3 : Int32) (σ : xs_S) : Int32 × xs_S := xl_l ((a1 &&& (4095 : Int32))) (fun v1 => (if (σ 18 1) = 0 then (v1, σ) else xl_l ((v1 / (64 : Int32))) (fun v3 => xl_l ((((64 : Int32) * (σ 20 24)) + ((2 : Int32) * (v3 / (16 : Int32))))) (fun v4 => xl_l ((if a3 = 0 then (if (σ 20 21) = (3 : Int32) then (1 : Int32) else (0 : Int32)) else (0 : Int32))) (fun v5 => xl_l (((if a2 = 0 then (0 : Int32) else (2 : Int32)) + (if v5 = 0 then (0 : Int32) else (4 : Int32)))) (fun v6 => xl_l ((if ((σ 19 (v4).toNatClampNeg) &&& (1 : Int32)) = (1 : Int32) then (1 : Int32) else (0 : Int32))) (fun v7 => xl_l ((((64 : Int32) * ((σ 19 ((v4 + (1 : Int32))).toNatClampNeg) &&& (31 : Int32))) + ((2 : Int32) * (v3 - v3 / (16 : Int32) * (16 : Int32))))) (fun v8 => xl_l ((if v7 = 0 then (0 : Int32) else (if ((σ 19 (v8).toNatClampNeg) &&& (1 : Int32)) = (1 : Int32) then (1 : Int32) else (0 : Int32)))) (fun v9 => xl_l (((σ 19 (v4).toNatClampNeg) &&& (σ 19 (v8).toNatClampNeg))) (fun v10 => xl_l ((if v5 = 0 then (0 : Int32) else (if (v10 &&& (4 : Int32)) = 0 then (1 : Int32) else (if a2 = 0 then (0 : Int32) else (if (v10 &&& (2 : Int32)) = 0 then (1 : Int32) else (0 : Int32)))))) (fun v11 => (if v9 = 0 then xl_l ((xu_u σ 18 7 v1)) (fun s13 => xl_l ((fy_raise (14 : Int32) v6 s13)) (fun s14 => ((0 : Int32), s14))) else (if v11 = 0 then xl_l ((xu_u σ 19 (v4).toNatClampNeg ((σ 19 (v4).toNatClampNeg) ||| (32 : Int32)))) (fun s16 => xl_l ((xu_u s16 19 (v8).toNatClampNeg ((s16 19 (v8).toNatClampNeg) ||| (if a2 = 0 then (32 : Int32) else (96 : Int32))))) (fun s17 => ((((64 : Int32) * ((s17 19 ((v8 + (1 : Int32))).toNatClampNeg) &&& (31 : Int32))) + (v1 - v1 / (64 : Int32) * (64 : Int32))), s17))) else xl_l ((xu_u σ 18 7 v1)) (fun s18 => xl_l ((fy_raise (14 : Int32) (v6 + (1 : Int32)) s18)) (fun s19 => ((0 : Int32), s19))))))))))))))))
set_option maxRecDepth 100000 in
set_option maxHeartbeats 4000000 in
theorem my_located {l : Launch} {N n u : Nat} {a1 : Int32} {a2 : Int32} {a3 : Int32} {σ : xs_S} (hl : l.stackTraces = false) (hn : 29 ≤ n) (hJ : yx_J σ) : xm_m (xk_k N) l ty_located [.ref 18, .int a1, .int a2, .int a3] (n, u, σ, xr_0) (xe_p ei_i n u (fy_located a1 a2 a3 σ)) := by
  refine xm_of hl ok_y_located (Nat.le_of_ble_eq_true rfl) ?_
  show xw_w (xk_k N) l ty_located 0 [some (.ref 18), some (.int a1), some (.int a2), some (.int a3), none, none, none, none, none, none, none, none, none] [] (n, u, σ, xr_0) (xe_p ei_i n u (fy_located a1 a2 a3 σ))
  unfold fy_located
  refine xw_iload1 dy_located_0 ?_
  refine xw_sipush dy_located_1 ks_4095 ?_
  refine xw_iand dy_located_4 ?_
  refine xw_li (fun v1 e_v1 => ?_)
  refine xw_istore4 dy_located_5 (Nat.le_of_ble_eq_true rfl) rfl ?_
  refine xw_aload0 dy_located_7 ?_
  refine xw_getI dy_located_8 fl_y_46 (by decide) (xl_n hn (by decide)) rfl ?_
  refine xw_if_ne' dy_located_11 rfl (fun h2 => ?_) (fun h2 => ?_)
  · refine xw_iload4 dy_located_17 ?_
    refine xw_bipush dy_located_19 kb_64 ?_
    refine xw_idiv dy_located_21 nz_64 ?_
    refine xw_li (fun v3 e_v3 => ?_)
    refine xw_istore5 dy_located_22 (Nat.le_of_ble_eq_true rfl) rfl ?_
    refine xw_bipush dy_located_24 kb_64 ?_
    refine xw_aload0 dy_located_26 ?_
    refine xw_getR dy_located_27 fl_y_13 (xl_n hn (by decide)) rfl r_18_5 ?_
    refine xw_bipush dy_located_30 kb_24 ?_
    refine xw_iald dy_located_32 (xl_n hn (by decide)) rfl vc_24_26 cn_24 ?_
    refine xw_imul dy_located_33 ?_
    refine xw_iconst dy_located_34 ki_2 ?_
    refine xw_iload5 dy_located_35 ?_
    refine xw_bipush dy_located_37 kb_16 ?_
    refine xw_idiv dy_located_39 nz_16 ?_
    refine xw_imul dy_located_40 ?_
    refine xw_iadd dy_located_41 ?_
    refine xw_li (fun v4 e_v4 => ?_)
    refine xw_istore6 dy_located_42 (Nat.le_of_ble_eq_true rfl) rfl ?_
    refine xw_iload3 dy_located_44 ?_
    refine xw_if_ne_mi (J := 64) (a := (if (σ 20 21) = (3 : Int32) then (1 : Int32) else (0 : Int32))) (b := (0 : Int32)) dy_located_45 rfl (fun _ E' k' => ?_) (fun _ E' k' => ?_) ?_
    · refine xw_iconst dy_located_63 ki_0 ?_
      exact k'
    · refine xw_aload0 dy_located_48 ?_
      refine xw_getR dy_located_49 fl_y_13 (xl_n hn (by decide)) rfl r_18_5 ?_
      refine xw_bipush dy_located_52 kb_21 ?_
      refine xw_iald dy_located_54 (xl_n hn (by decide)) rfl vc_21_26 cn_21 ?_
      refine xw_iconst dy_located_55 ki_3 ?_
      refine xw_icmp_ne_mi (J := 64) (a := (1 : Int32)) (b := (0 : Int32)) dy_located_56 rfl (fun _ E' k' => ?_) (fun _ E' k' => ?_) ?_
      · refine xw_iconst dy_located_63 ki_0 ?_
        exact k'
      · refine xw_iconst dy_located_59 ki_1 ?_
        refine xw_goto dy_located_60 rfl ?_
        exact k'
      exact k'
    refine xw_li (fun v5 e_v5 => ?_)
    refine xw_istore7 dy_located_64 (Nat.le_of_ble_eq_true rfl) rfl ?_
    refine xw_iload2 dy_located_66 ?_
    refine xw_if_eq_mi (J := 75) (a := (0 : Int32)) (b := (2 : Int32)) dy_located_67 rfl (fun _ E' k' => ?_) (fun _ E' k' => ?_) ?_
    · refine xw_iconst dy_located_74 ki_0 ?_
      exact k'
    · refine xw_iconst dy_located_70 ki_2 ?_
      refine xw_goto dy_located_71 rfl ?_
      exact k'
    refine xw_iload7 dy_located_75 ?_
    refine xw_if_eq_mi (J := 85) (a := (0 : Int32)) (b := (4 : Int32)) dy_located_77 rfl (fun _ E' k' => ?_) (fun _ E' k' => ?_) ?_
    · refine xw_iconst dy_located_84 ki_0 ?_
      exact k'
    · refine xw_iconst dy_located_80 ki_4 ?_
      refine xw_goto dy_located_81 rfl ?_
      exact k'
    refine xw_iadd dy_located_85 ?_
    refine xw_li (fun v6 e_v6 => ?_)
    refine xw_istore8 dy_located_86 (Nat.le_of_ble_eq_true rfl) rfl ?_
    refine xw_aload0 dy_located_88 ?_
    refine xw_getR dy_located_89 fl_y_7 (xl_n hn (by decide)) rfl r_18_0 ?_
    refine xw_iload6 dy_located_92 ?_
    refine xw_iald dy_located_94 (xl_n hn (by decide)) rfl ((lo_up hJ.1 e_v1 e_v3 e_v4).1) rfl ?_
    refine xw_iconst dy_located_95 ki_1 ?_
    refine xw_iand dy_located_96 ?_
    refine xw_iconst dy_located_97 ki_1 ?_
    refine xw_icmp_ne_mi (J := 106) (a := (1 : Int32)) (b := (0 : Int32)) dy_located_98 rfl (fun _ E' k' => ?_) (fun _ E' k' => ?_) ?_
    · refine xw_iconst dy_located_105 ki_0 ?_
      exact k'
    · refine xw_iconst dy_located_101 ki_1 ?_
      refine xw_goto dy_located_102 rfl ?_
      exact k'
    refine xw_li (fun v7 e_v7 => ?_)
    refine xw_istore9 dy_located_106 (Nat.le_of_ble_eq_true rfl) rfl ?_
    refine xw_bipush dy_located_108 kb_64 ?_
    refine xw_aload0 dy_located_110 ?_
    refine xw_getR dy_located_111 fl_y_7 (xl_n hn (by decide)) rfl r_18_0 ?_
    refine xw_iload6 dy_located_114 ?_
    refine xw_iconst dy_located_116 ki_1 ?_
    refine xw_iadd dy_located_117 ?_
    refine xw_iald dy_located_118 (xl_n hn (by decide)) rfl ((lo_up hJ.1 e_v1 e_v3 e_v4).2) rfl ?_
    refine xw_bipush dy_located_119 kb_31 ?_
    refine xw_iand dy_located_121 ?_
    refine xw_imul dy_located_122 ?_
    refine xw_iconst dy_located_123 ki_2 ?_
    refine xw_iload5 dy_located_124 ?_
    refine xw_bipush dy_located_126 kb_16 ?_
    refine xw_irem dy_located_128 nz_16 ?_
    refine xw_imul dy_located_129 ?_
    refine xw_iadd dy_located_130 ?_
    refine xw_li (fun v8 e_v8 => ?_)
    refine xw_istore10 dy_located_131 (Nat.le_of_ble_eq_true rfl) rfl ?_
    refine xw_iload9 dy_located_133 ?_
    refine xw_if_eq_mi (J := 156) (a := (0 : Int32)) (b := (if ((σ 19 (v8).toNatClampNeg) &&& (1 : Int32)) = (1 : Int32) then (1 : Int32) else (0 : Int32))) dy_located_135 rfl (fun _ E' k' => ?_) (fun _ E' k' => ?_) ?_
    · refine xw_iconst dy_located_155 ki_0 ?_
      exact k'
    · refine xw_aload0 dy_located_138 ?_
      refine xw_getR dy_located_139 fl_y_7 (xl_n hn (by decide)) rfl r_18_0 ?_
      refine xw_iload10 dy_located_142 ?_
      refine xw_iald dy_located_144 (xl_n hn (by decide)) rfl ((lo_dn e_v1 e_v3 e_v8).1) rfl ?_
      refine xw_iconst dy_located_145 ki_1 ?_
      refine xw_iand dy_located_146 ?_
      refine xw_iconst dy_located_147 ki_1 ?_
      refine xw_icmp_ne_mi (J := 156) (a := (1 : Int32)) (b := (0 : Int32)) dy_located_148 rfl (fun _ E' k' => ?_) (fun _ E' k' => ?_) ?_
      · refine xw_iconst dy_located_155 ki_0 ?_
        exact k'
      · refine xw_iconst dy_located_151 ki_1 ?_
        refine xw_goto dy_located_152 rfl ?_
        exact k'
      exact k'
    refine xw_li (fun v9 e_v9 => ?_)
    refine xw_istore9 dy_located_156 (Nat.le_of_ble_eq_true rfl) rfl ?_
    refine xw_aload0 dy_located_158 ?_
    refine xw_getR dy_located_159 fl_y_7 (xl_n hn (by decide)) rfl r_18_0 ?_
    refine xw_iload6 dy_located_162 ?_
    refine xw_iald dy_located_164 (xl_n hn (by decide)) rfl ((lo_up hJ.1 e_v1 e_v3 e_v4).1) rfl ?_
    refine xw_aload0 dy_located_165 ?_
    refine xw_getR dy_located_166 fl_y_7 (xl_n hn (by decide)) rfl r_18_0 ?_
    refine xw_iload10 dy_located_169 ?_
    refine xw_iald dy_located_171 (xl_n hn (by decide)) rfl ((lo_dn e_v1 e_v3 e_v8).1) rfl ?_
    refine xw_iand dy_located_172 ?_
    refine xw_li (fun v10 e_v10 => ?_)
    refine xw_istore11 dy_located_173 (Nat.le_of_ble_eq_true rfl) rfl ?_
    refine xw_iload7 dy_located_175 ?_
    refine xw_if_eq_mi (J := 203) (a := (0 : Int32)) (b := (if (v10 &&& (4 : Int32)) = 0 then (1 : Int32) else (if a2 = 0 then (0 : Int32) else (if (v10 &&& (2 : Int32)) = 0 then (1 : Int32) else (0 : Int32))))) dy_located_177 rfl (fun _ E' k' => ?_) (fun _ E' k' => ?_) ?_
    · refine xw_iconst dy_located_202 ki_0 ?_
      exact k'
    · refine xw_iload11 dy_located_180 ?_
      refine xw_iconst dy_located_182 ki_4 ?_
      refine xw_iand dy_located_183 ?_
      refine xw_if_eq_mi (J := 203) (a := (1 : Int32)) (b := (if a2 = 0 then (0 : Int32) else (if (v10 &&& (2 : Int32)) = 0 then (1 : Int32) else (0 : Int32)))) dy_located_184 rfl (fun _ E' k' => ?_) (fun _ E' k' => ?_) ?_
      · refine xw_iconst dy_located_198 ki_1 ?_
        refine xw_goto dy_located_199 rfl ?_
        exact k'
      · refine xw_iload2 dy_located_187 ?_
        refine xw_if_eq_mi (J := 203) (a := (0 : Int32)) (b := (if (v10 &&& (2 : Int32)) = 0 then (1 : Int32) else (0 : Int32))) dy_located_188 rfl (fun _ E' k' => ?_) (fun _ E' k' => ?_) ?_
        · refine xw_iconst dy_located_202 ki_0 ?_
          exact k'
        · refine xw_iload11 dy_located_191 ?_
          refine xw_iconst dy_located_193 ki_2 ?_
          refine xw_iand dy_located_194 ?_
          refine xw_if_ne_mi (J := 203) (a := (1 : Int32)) (b := (0 : Int32)) dy_located_195 rfl (fun _ E' k' => ?_) (fun _ E' k' => ?_) ?_
          · refine xw_iconst dy_located_202 ki_0 ?_
            exact k'
          · refine xw_iconst dy_located_198 ki_1 ?_
            refine xw_goto dy_located_199 rfl ?_
            exact k'
          exact k'
        exact k'
      exact k'
    refine xw_li (fun v11 e_v11 => ?_)
    refine xw_istore12 dy_located_203 (Nat.le_of_ble_eq_true rfl) rfl ?_
    refine xw_iload9 dy_located_205 ?_
    refine xw_if_eq' dy_located_207 rfl (fun h12 => ?_) (fun h12 => ?_)
    · refine xw_aload0 dy_located_215 ?_
      refine xw_iload4 dy_located_216 ?_
      refine xw_putI dy_located_218 fl_y_50 nf_5_7 (by decide) (xl_n hn (by decide)) rfl ?_
      refine xw_lw (fun s13 e_s13 => ?_)
      have hJ_s13 : yx_J s13 := by rw [e_s13]; exact (yx_u hJ (by decide))
      refine xw_aload0 dy_located_221 ?_
      refine xw_bipush dy_located_222 kb_14 ?_
      refine xw_iload9 dy_located_224 ?_
      refine xw_if_eq_t dy_located_226 rfl h12 ?_
      refine xw_iload8 dy_located_236 ?_
      refine xw_cW dy_located_238 (lk_y_located_238 (xl_n hn (by decide)) rfl) ok_y_raise (my_raise hl hn) ⟨Nat.le_of_ble_eq_true rfl, Nat.le_of_ble_eq_true rfl⟩ ?_
      refine xw_lw (fun s14 e_s14 => ?_)
      have hJ_s14 : yx_J s14 := by rw [e_s14]; exact (jy_raise hJ_s13)
      refine xw_iconst dy_located_241 ki_0 ?_
      exact xw_iret dy_located_242 rfl
    · refine xw_iload12 dy_located_210 ?_
      refine xw_if_eq' dy_located_212 rfl (fun h15 => ?_) (fun h15 => ?_)
      · refine xw_aload0 dy_located_243 ?_
        refine xw_getR dy_located_244 fl_y_7 (xl_n hn (by decide)) rfl r_18_0 ?_
        refine xw_iload6 dy_located_247 ?_
        refine xw_dup2 dy_located_249 rfl rfl ?_
        refine xw_iald dy_located_250 (xl_n hn (by decide)) rfl ((lo_up hJ.1 e_v1 e_v3 e_v4).1) rfl ?_
        refine xw_bipush dy_located_251 kb_32 ?_
        refine xw_ior dy_located_253 ?_
        refine xw_iast dy_located_254 (by decide) (xl_n hn (by decide)) rfl ((lo_up hJ.1 e_v1 e_v3 e_v4).1) rfl ?_
        refine xw_lw (fun s16 e_s16 => ?_)
        have hJ_s16 : yx_J s16 := by rw [e_s16]; exact (yx_c hJ (by decide))
        refine xw_aload0 dy_located_255 ?_
        refine xw_getR dy_located_256 fl_y_7 (xl_n hn (by decide)) rfl r_18_0 ?_
        refine xw_iload10 dy_located_259 ?_
        refine xw_dup2 dy_located_261 rfl rfl ?_
        refine xw_iald dy_located_262 (xl_n hn (by decide)) rfl ((lo_dn e_v1 e_v3 e_v8).1) rfl ?_
        refine xw_iload2 dy_located_263 ?_
        refine xw_if_eq_mi (J := 274) (a := (32 : Int32)) (b := (96 : Int32)) dy_located_264 rfl (fun _ E' k' => ?_) (fun _ E' k' => ?_) ?_
        · refine xw_bipush dy_located_272 kb_32 ?_
          exact k'
        · refine xw_bipush dy_located_267 kb_96 ?_
          refine xw_goto dy_located_269 rfl ?_
          exact k'
        refine xw_ior dy_located_274 ?_
        refine xw_iast dy_located_275 (by decide) (xl_n hn (by decide)) rfl ((lo_dn e_v1 e_v3 e_v8).1) rfl ?_
        refine xw_lw (fun s17 e_s17 => ?_)
        have hJ_s17 : yx_J s17 := by rw [e_s17]; exact (yx_c hJ_s16 (by decide))
        refine xw_bipush dy_located_276 kb_64 ?_
        refine xw_aload0 dy_located_278 ?_
        refine xw_getR dy_located_279 fl_y_7 (xl_n hn (by decide)) rfl r_18_0 ?_
        refine xw_iload10 dy_located_282 ?_
        refine xw_iconst dy_located_284 ki_1 ?_
        refine xw_iadd dy_located_285 ?_
        refine xw_iald dy_located_286 (xl_n hn (by decide)) rfl ((lo_dn e_v1 e_v3 e_v8).2) rfl ?_
        refine xw_bipush dy_located_287 kb_31 ?_
        refine xw_iand dy_located_289 ?_
        refine xw_imul dy_located_290 ?_
        refine xw_iload4 dy_located_291 ?_
        refine xw_bipush dy_located_293 kb_64 ?_
        refine xw_irem dy_located_295 nz_64 ?_
        refine xw_iadd dy_located_296 ?_
        exact xw_iret dy_located_297 rfl
      · refine xw_aload0 dy_located_215 ?_
        refine xw_iload4 dy_located_216 ?_
        refine xw_putI dy_located_218 fl_y_50 nf_5_7 (by decide) (xl_n hn (by decide)) rfl ?_
        refine xw_lw (fun s18 e_s18 => ?_)
        have hJ_s18 : yx_J s18 := by rw [e_s18]; exact (yx_u hJ (by decide))
        refine xw_aload0 dy_located_221 ?_
        refine xw_bipush dy_located_222 kb_14 ?_
        refine xw_iload9 dy_located_224 ?_
        refine xw_if_eq_f dy_located_226 rfl h12 ?_
        refine xw_iload8 dy_located_229 ?_
        refine xw_iconst dy_located_231 ki_1 ?_
        refine xw_iadd dy_located_232 ?_
        refine xw_goto dy_located_233 rfl ?_
        refine xw_cW dy_located_238 (lk_y_located_238 (xl_n hn (by decide)) rfl) ok_y_raise (my_raise hl hn) ⟨Nat.le_of_ble_eq_true rfl, Nat.le_of_ble_eq_true rfl⟩ ?_
        refine xw_lw (fun s19 e_s19 => ?_)
        have hJ_s19 : yx_J s19 := by rw [e_s19]; exact (jy_raise hJ_s18)
        refine xw_iconst dy_located_241 ki_0 ?_
        exact xw_iret dy_located_242 rfl
  · refine xw_iload4 dy_located_14 ?_
    exact xw_iret dy_located_16 rfl
theorem jy_located {a1 : Int32} {a2 : Int32} {a3 : Int32} {σ : xs_S} (hJ : yx_J σ) : yx_J (fy_located a1 a2 a3 σ).2 := by
  unfold fy_located
  refine xj_l (fun v1 e_v1 => ?_)
  refine xj_f (fun h2 => ?_) (fun h2 => ?_)
  · exact hJ
  · refine xj_l (fun v3 e_v3 => ?_)
    refine xj_l (fun v4 e_v4 => ?_)
    refine xj_l (fun v5 e_v5 => ?_)
    refine xj_l (fun v6 e_v6 => ?_)
    refine xj_l (fun v7 e_v7 => ?_)
    refine xj_l (fun v8 e_v8 => ?_)
    refine xj_l (fun v9 e_v9 => ?_)
    refine xj_l (fun v10 e_v10 => ?_)
    refine xj_l (fun v11 e_v11 => ?_)
    refine xj_f (fun h12 => ?_) (fun h12 => ?_)
    · refine xj_l (fun s13 e_s13 => ?_)
      have hJ_s13 : yx_J s13 := by rw [e_s13]; exact (yx_u hJ (by decide))
      refine xj_l (fun s14 e_s14 => ?_)
      have hJ_s14 : yx_J s14 := by rw [e_s14]; exact (jy_raise hJ_s13)
      exact hJ_s14
    · refine xj_f (fun h15 => ?_) (fun h15 => ?_)
      · refine xj_l (fun s16 e_s16 => ?_)
        have hJ_s16 : yx_J s16 := by rw [e_s16]; exact (yx_c hJ (by decide))
        refine xj_l (fun s17 e_s17 => ?_)
        have hJ_s17 : yx_J s17 := by rw [e_s17]; exact (yx_c hJ_s16 (by decide))
        exact hJ_s17
      · refine xj_l (fun s18 e_s18 => ?_)
        have hJ_s18 : yx_J s18 := by rw [e_s18]; exact (yx_u hJ (by decide))
        refine xj_l (fun s19 e_s19 => ?_)
        have hJ_s19 : yx_J s19 := by rw [e_s19]; exact (jy_raise hJ_s18)
        exact hJ_s19
theorem ly_nn {a1 a2 a3 : Int32} {σ : xs_S} {r : Int32 × xs_S} (h : r = fy_located a1 a2 a3 σ) : ¬ r.1 < 0 := by
  rw [h]
  unfold fy_located
  refine xq_l (Q := fun b => ¬ b < 0) (fun v1 e1 => ?_)
  refine xq_f (Q := fun b => ¬ b < 0) (fun _ => lo_v1 e1) (fun _ => ?_)
  refine xq_l (Q := fun b => ¬ b < 0) (fun v3 e3 => xq_l (Q := fun b => ¬ b < 0) (fun v4 e4 => xq_l (Q := fun b => ¬ b < 0) (fun v5 e5 => xq_l (Q := fun b => ¬ b < 0) (fun v6 e6 => xq_l (Q := fun b => ¬ b < 0) (fun v7 e7 => xq_l (Q := fun b => ¬ b < 0) (fun v8 e8 => xq_l (Q := fun b => ¬ b < 0) (fun v9 e9 => xq_l (Q := fun b => ¬ b < 0) (fun v10 e10 => xq_l (Q := fun b => ¬ b < 0) (fun v11 e11 => ?_)))))))))
  refine xq_f (Q := fun b => ¬ b < 0) (fun _ => ?_) (fun _ => xq_f (Q := fun b => ¬ b < 0) (fun _ => ?_) (fun _ => ?_))
  · exact (by decide : ¬ (0 : Int32) < 0)
  · exact lo_re e1
  · exact (by decide : ¬ (0 : Int32) < 0)
def fy_readByte (a1 : Int32) (a2 : Int32) (σ : xs_S) : Int32 × xs_S := xl_l (fy_located a1 (0 : Int32) a2 σ) (fun r1 => (if (fy_isRaised r1.2) = 0 then (if (2048 : Int32) ≤ r1.1 then ((255 : Int32), r1.2) else ((r1.2 19 (r1.1).toNatClampNeg), r1.2)) else ((0 : Int32), r1.2)))
set_option maxRecDepth 100000 in
set_option maxHeartbeats 4000000 in
theorem my_readByte {l : Launch} {N n u : Nat} {a1 : Int32} {a2 : Int32} {σ : xs_S} (hl : l.stackTraces = false) (hn : 29 ≤ n) (hJ : yx_J σ) : xm_m (xk_k N) l ty_readByte [.ref 18, .int a1, .int a2] (n, u, σ, xr_0) (xe_p ei_i n u (fy_readByte a1 a2 σ)) := by
  refine xm_of hl ok_y_readByte (Nat.le_of_ble_eq_true rfl) ?_
  show xw_w (xk_k N) l ty_readByte 0 [some (.ref 18), some (.int a1), some (.int a2), none] [] (n, u, σ, xr_0) (xe_p ei_i n u (fy_readByte a1 a2 σ))
  unfold fy_readByte
  refine xw_aload0 dy_readByte_0 ?_
  refine xw_iload1 dy_readByte_1 ?_
  refine xw_iconst dy_readByte_2 ki_0 ?_
  refine xw_iload2 dy_readByte_3 ?_
  refine xw_cPi dy_readByte_4 (lk_y_readByte_4 (xl_n hn (by decide)) rfl) ok_y_located (my_located hl hn hJ) ⟨Nat.le_of_ble_eq_true rfl, Nat.le_of_ble_eq_true rfl⟩ ?_
  refine xw_lpi (fun r1 e_r1 => ?_)
  have hJ_r1 : yx_J r1.2 := by rw [e_r1]; exact (jy_located hJ)
  refine xw_istore3 dy_readByte_7 (Nat.le_of_ble_eq_true rfl) rfl ?_
  refine xw_aload0 dy_readByte_8 ?_
  refine xw_cVi dy_readByte_9 (lk_y_readByte_9 (xl_n hn (by decide)) rfl) ok_y_isRaised (my_isRaised hl hn) ⟨Nat.le_of_ble_eq_true rfl, Nat.le_of_ble_eq_true rfl⟩ ?_
  refine xw_if_eq' dy_readByte_12 rfl (fun h2 => ?_) (fun h2 => ?_)
  · refine xw_iload3 dy_readByte_19 ?_
    refine xw_sipush dy_readByte_20 ks_2048 ?_
    refine xw_icmp_ge' dy_readByte_23 rfl (fun h3 => ?_) (fun h3 => ?_)
    · refine xw_sipush dy_readByte_35 ks_255 ?_
      exact xw_iret dy_readByte_38 rfl
    · refine xw_aload0 dy_readByte_26 ?_
      refine xw_getR dy_readByte_27 fl_y_7 (xl_n hn (by decide)) rfl r_18_0 ?_
      refine xw_iload3 dy_readByte_30 ?_
      refine xw_iald dy_readByte_31 (xl_n hn (by decide)) rfl (vi_b (ly_nn e_r1) h3) rfl ?_
      refine xw_goto dy_readByte_32 rfl ?_
      exact xw_iret dy_readByte_38 rfl
  · refine xw_iconst dy_readByte_15 ki_0 ?_
    refine xw_goto dy_readByte_16 rfl ?_
    exact xw_iret dy_readByte_38 rfl
theorem jy_readByte {a1 : Int32} {a2 : Int32} {σ : xs_S} (hJ : yx_J σ) : yx_J (fy_readByte a1 a2 σ).2 := by
  unfold fy_readByte
  refine xj_l (fun r1 e_r1 => ?_)
  have hJ_r1 : yx_J r1.2 := by rw [e_r1]; exact (jy_located hJ)
  refine xj_f (fun h2 => ?_) (fun h2 => ?_)
  · refine xj_f (fun h3 => ?_) (fun h3 => ?_)
    · exact hJ_r1
    · exact hJ_r1
  · exact hJ_r1
def fy_writeByte (a1 : Int32) (a2 : Int32) (a3 : Int32) (σ : xs_S) : xs_S := xl_l (fy_located a1 (1 : Int32) a3 σ) (fun r1 => (if (fy_isRaised r1.2) = 0 then (if (2048 : Int32) ≤ r1.1 then r1.2 else xl_l ((xu_u r1.2 19 (r1.1).toNatClampNeg (a2 &&& (255 : Int32)))) (fun s4 => s4)) else r1.2))
set_option maxRecDepth 100000 in
set_option maxHeartbeats 4000000 in
theorem my_writeByte {l : Launch} {N n u : Nat} {a1 : Int32} {a2 : Int32} {a3 : Int32} {σ : xs_S} (hl : l.stackTraces = false) (hn : 29 ≤ n) (hJ : yx_J σ) : xm_m (xk_k N) l ty_writeByte [.ref 18, .int a1, .int a2, .int a3] (n, u, σ, xr_0) (xe_w n u (fy_writeByte a1 a2 a3 σ)) := by
  refine xm_of hl ok_y_writeByte (Nat.le_of_ble_eq_true rfl) ?_
  show xw_w (xk_k N) l ty_writeByte 0 [some (.ref 18), some (.int a1), some (.int a2), some (.int a3), none] [] (n, u, σ, xr_0) (xe_w n u (fy_writeByte a1 a2 a3 σ))
  unfold fy_writeByte
  refine xw_aload0 dy_writeByte_0 ?_
  refine xw_iload1 dy_writeByte_1 ?_
  refine xw_iconst dy_writeByte_2 ki_1 ?_
  refine xw_iload3 dy_writeByte_3 ?_
  refine xw_cPi dy_writeByte_4 (lk_y_writeByte_4 (xl_n hn (by decide)) rfl) ok_y_located (my_located hl hn hJ) ⟨Nat.le_of_ble_eq_true rfl, Nat.le_of_ble_eq_true rfl⟩ ?_
  refine xw_lpi (fun r1 e_r1 => ?_)
  have hJ_r1 : yx_J r1.2 := by rw [e_r1]; exact (jy_located hJ)
  refine xw_istore4 dy_writeByte_7 (Nat.le_of_ble_eq_true rfl) rfl ?_
  refine xw_aload0 dy_writeByte_9 ?_
  refine xw_cVi dy_writeByte_10 (lk_y_writeByte_10 (xl_n hn (by decide)) rfl) ok_y_isRaised (my_isRaised hl hn) ⟨Nat.le_of_ble_eq_true rfl, Nat.le_of_ble_eq_true rfl⟩ ?_
  refine xw_if_ne' dy_writeByte_13 rfl (fun h2 => ?_) (fun h2 => ?_)
  · exact xw_vret dy_writeByte_36 rfl
  · refine xw_iload4 dy_writeByte_16 ?_
    refine xw_sipush dy_writeByte_18 ks_2048 ?_
    refine xw_icmp_ge' dy_writeByte_21 rfl (fun h3 => ?_) (fun h3 => ?_)
    · exact xw_vret dy_writeByte_36 rfl
    · refine xw_aload0 dy_writeByte_24 ?_
      refine xw_getR dy_writeByte_25 fl_y_7 (xl_n hn (by decide)) rfl r_18_0 ?_
      refine xw_iload4 dy_writeByte_28 ?_
      refine xw_iload2 dy_writeByte_30 ?_
      refine xw_sipush dy_writeByte_31 ks_255 ?_
      refine xw_iand dy_writeByte_34 ?_
      refine xw_iast dy_writeByte_35 (by decide) (xl_n hn (by decide)) rfl (vi_b (ly_nn e_r1) h3) rfl ?_
      refine xw_lw (fun s4 e_s4 => ?_)
      have hJ_s4 : yx_J s4 := by rw [e_s4]; exact (yx_c hJ_r1 (by decide))
      exact xw_vret dy_writeByte_36 rfl
theorem jy_writeByte {a1 : Int32} {a2 : Int32} {a3 : Int32} {σ : xs_S} (hJ : yx_J σ) : yx_J (fy_writeByte a1 a2 a3 σ) := by
  unfold fy_writeByte
  refine xj_wl (fun r1 e_r1 => ?_)
  have hJ_r1 : yx_J r1.2 := by rw [e_r1]; exact (jy_located hJ)
  refine xj_wf (fun h2 => ?_) (fun h2 => ?_)
  · refine xj_wf (fun h3 => ?_) (fun h3 => ?_)
    · exact hJ_r1
    · refine xj_wl (fun s4 e_s4 => ?_)
      have hJ_s4 : yx_J s4 := by rw [e_s4]; exact (yx_c hJ_r1 (by decide))
      exact hJ_s4
  · exact hJ_r1
def fy_readWord (a1 : Int32) (a2 : Int32) (σ : xs_S) : Int32 × xs_S := xl_l (fy_readByte a1 a2 σ) (fun r1 => (if (fy_isRaised r1.2) = 0 then xl_l (fy_readByte (a1 + (1 : Int32)) a2 r1.2) (fun r3 => ((r1.1 + ((256 : Int32) * r3.1)), r3.2)) else ((0 : Int32), r1.2)))
set_option maxRecDepth 100000 in
set_option maxHeartbeats 4000000 in
theorem my_readWord {l : Launch} {N n u : Nat} {a1 : Int32} {a2 : Int32} {σ : xs_S} (hl : l.stackTraces = false) (hn : 29 ≤ n) (hJ : yx_J σ) : xm_m (xk_k N) l ty_readWord [.ref 18, .int a1, .int a2] (n, u, σ, xr_0) (xe_p ei_i n u (fy_readWord a1 a2 σ)) := by
  refine xm_of hl ok_y_readWord (Nat.le_of_ble_eq_true rfl) ?_
  show xw_w (xk_k N) l ty_readWord 0 [some (.ref 18), some (.int a1), some (.int a2), none] [] (n, u, σ, xr_0) (xe_p ei_i n u (fy_readWord a1 a2 σ))
  unfold fy_readWord
  refine xw_aload0 dy_readWord_0 ?_
  refine xw_iload1 dy_readWord_1 ?_
  refine xw_iload2 dy_readWord_2 ?_
  refine xw_cPi dy_readWord_3 (lk_y_readWord_3 (xl_n hn (by decide)) rfl) ok_y_readByte (my_readByte hl hn hJ) ⟨Nat.le_of_ble_eq_true rfl, Nat.le_of_ble_eq_true rfl⟩ ?_
  refine xw_lpi (fun r1 e_r1 => ?_)
  have hJ_r1 : yx_J r1.2 := by rw [e_r1]; exact (jy_readByte hJ)
  refine xw_istore3 dy_readWord_6 (Nat.le_of_ble_eq_true rfl) rfl ?_
  refine xw_aload0 dy_readWord_7 ?_
  refine xw_cVi dy_readWord_8 (lk_y_readWord_8 (xl_n hn (by decide)) rfl) ok_y_isRaised (my_isRaised hl hn) ⟨Nat.le_of_ble_eq_true rfl, Nat.le_of_ble_eq_true rfl⟩ ?_
  refine xw_if_eq' dy_readWord_11 rfl (fun h2 => ?_) (fun h2 => ?_)
  · refine xw_iload3 dy_readWord_16 ?_
    refine xw_sipush dy_readWord_17 ks_256 ?_
    refine xw_aload0 dy_readWord_20 ?_
    refine xw_iload1 dy_readWord_21 ?_
    refine xw_iconst dy_readWord_22 ki_1 ?_
    refine xw_iadd dy_readWord_23 ?_
    refine xw_iload2 dy_readWord_24 ?_
    refine xw_cPi dy_readWord_25 (lk_y_readWord_25 (xl_n hn (by decide)) rfl) ok_y_readByte (my_readByte hl hn hJ_r1) ⟨Nat.le_of_ble_eq_true rfl, Nat.le_of_ble_eq_true rfl⟩ ?_
    refine xw_lpi (fun r3 e_r3 => ?_)
    have hJ_r3 : yx_J r3.2 := by rw [e_r3]; exact (jy_readByte hJ_r1)
    refine xw_imul dy_readWord_28 ?_
    refine xw_iadd dy_readWord_29 ?_
    exact xw_iret dy_readWord_30 rfl
  · refine xw_iconst dy_readWord_14 ki_0 ?_
    exact xw_iret dy_readWord_15 rfl
theorem jy_readWord {a1 : Int32} {a2 : Int32} {σ : xs_S} (hJ : yx_J σ) : yx_J (fy_readWord a1 a2 σ).2 := by
  unfold fy_readWord
  refine xj_l (fun r1 e_r1 => ?_)
  have hJ_r1 : yx_J r1.2 := by rw [e_r1]; exact (jy_readByte hJ)
  refine xj_f (fun h2 => ?_) (fun h2 => ?_)
  · refine xj_l (fun r3 e_r3 => ?_)
    have hJ_r3 : yx_J r3.2 := by rw [e_r3]; exact (jy_readByte hJ_r1)
    exact hJ_r3
  · exact hJ_r1
def fy_writeWord (a1 : Int32) (a2 : Int32) (a3 : Int32) (σ : xs_S) : xs_S := xl_l ((fy_writeByte a1 a2 a3 σ)) (fun s1 => (if (fy_isRaised s1) = 0 then xl_l ((fy_writeByte (a1 + (1 : Int32)) (a2 >>> ((8 : Int32) &&& 31)) a3 s1)) (fun s3 => s3) else s1))
set_option maxRecDepth 100000 in
set_option maxHeartbeats 4000000 in
theorem my_writeWord {l : Launch} {N n u : Nat} {a1 : Int32} {a2 : Int32} {a3 : Int32} {σ : xs_S} (hl : l.stackTraces = false) (hn : 29 ≤ n) (hJ : yx_J σ) : xm_m (xk_k N) l ty_writeWord [.ref 18, .int a1, .int a2, .int a3] (n, u, σ, xr_0) (xe_w n u (fy_writeWord a1 a2 a3 σ)) := by
  refine xm_of hl ok_y_writeWord (Nat.le_of_ble_eq_true rfl) ?_
  show xw_w (xk_k N) l ty_writeWord 0 [some (.ref 18), some (.int a1), some (.int a2), some (.int a3)] [] (n, u, σ, xr_0) (xe_w n u (fy_writeWord a1 a2 a3 σ))
  unfold fy_writeWord
  refine xw_aload0 dy_writeWord_0 ?_
  refine xw_iload1 dy_writeWord_1 ?_
  refine xw_iload2 dy_writeWord_2 ?_
  refine xw_iload3 dy_writeWord_3 ?_
  refine xw_cW dy_writeWord_4 (lk_y_writeWord_4 (xl_n hn (by decide)) rfl) ok_y_writeByte (my_writeByte hl hn hJ) ⟨Nat.le_of_ble_eq_true rfl, Nat.le_of_ble_eq_true rfl⟩ ?_
  refine xw_lw (fun s1 e_s1 => ?_)
  have hJ_s1 : yx_J s1 := by rw [e_s1]; exact (jy_writeByte hJ)
  refine xw_aload0 dy_writeWord_7 ?_
  refine xw_cVi dy_writeWord_8 (lk_y_writeWord_8 (xl_n hn (by decide)) rfl) ok_y_isRaised (my_isRaised hl hn) ⟨Nat.le_of_ble_eq_true rfl, Nat.le_of_ble_eq_true rfl⟩ ?_
  refine xw_if_ne' dy_writeWord_11 rfl (fun h2 => ?_) (fun h2 => ?_)
  · exact xw_vret dy_writeWord_26 rfl
  · refine xw_aload0 dy_writeWord_14 ?_
    refine xw_iload1 dy_writeWord_15 ?_
    refine xw_iconst dy_writeWord_16 ki_1 ?_
    refine xw_iadd dy_writeWord_17 ?_
    refine xw_iload2 dy_writeWord_18 ?_
    refine xw_bipush dy_writeWord_19 kb_8 ?_
    refine xw_ishr dy_writeWord_21 ?_
    refine xw_iload3 dy_writeWord_22 ?_
    refine xw_cW dy_writeWord_23 (lk_y_writeWord_23 (xl_n hn (by decide)) rfl) ok_y_writeByte (my_writeByte hl hn hJ_s1) ⟨Nat.le_of_ble_eq_true rfl, Nat.le_of_ble_eq_true rfl⟩ ?_
    refine xw_lw (fun s3 e_s3 => ?_)
    have hJ_s3 : yx_J s3 := by rw [e_s3]; exact (jy_writeByte hJ_s1)
    exact xw_vret dy_writeWord_26 rfl
theorem jy_writeWord {a1 : Int32} {a2 : Int32} {a3 : Int32} {σ : xs_S} (hJ : yx_J σ) : yx_J (fy_writeWord a1 a2 a3 σ) := by
  unfold fy_writeWord
  refine xj_wl (fun s1 e_s1 => ?_)
  have hJ_s1 : yx_J s1 := by rw [e_s1]; exact (jy_writeByte hJ)
  refine xj_wf (fun h2 => ?_) (fun h2 => ?_)
  · refine xj_wl (fun s3 e_s3 => ?_)
    have hJ_s3 : yx_J s3 := by rw [e_s3]; exact (jy_writeByte hJ_s1)
    exact hJ_s3
  · exact hJ_s1
def fy_isNull (a1 : Int32) (σ : xs_S) : Int32 := (if (4 : Int32) ≤ a1 then (0 : Int32) else (1 : Int32))
set_option maxRecDepth 100000 in
set_option maxHeartbeats 4000000 in
theorem my_isNull {l : Launch} {N n u : Nat} {a1 : Int32} {σ : xs_S} (hl : l.stackTraces = false) (hn : 29 ≤ n) : xm_m (xk_k N) l ty_isNull [.int a1] (n, u, σ, xr_0) (xe_v ei_i n u σ (fy_isNull a1 σ)) := by
  refine xm_of hl ok_y_isNull (Nat.le_of_ble_eq_true rfl) ?_
  show xw_w (xk_k N) l ty_isNull 0 [some (.int a1)] [] (n, u, σ, xr_0) (xe_v ei_i n u σ (fy_isNull a1 σ))
  unfold fy_isNull
  refine xw_iload0 dy_isNull_0 ?_
  refine xw_iconst dy_isNull_1 ki_4 ?_
  refine xw_icmp_ge' dy_isNull_2 rfl (fun h1 => ?_) (fun h1 => ?_)
  · refine xw_iconst dy_isNull_9 ki_0 ?_
    exact xw_zret dy_isNull_10 rfl (by decide)
  · refine xw_iconst dy_isNull_5 ki_1 ?_
    refine xw_goto dy_isNull_6 rfl ?_
    exact xw_zret dy_isNull_10 rfl (by decide)
def fy_codeOf (a1 : Int32) (σ : xs_S) : Int32 := (a1 &&& (65532 : Int32))
set_option maxRecDepth 100000 in
set_option maxHeartbeats 4000000 in
theorem my_codeOf {l : Launch} {N n u : Nat} {a1 : Int32} {σ : xs_S} (hl : l.stackTraces = false) (hn : 29 ≤ n) : xm_m (xk_k N) l ty_codeOf [.int a1] (n, u, σ, xr_0) (xe_v ei_i n u σ (fy_codeOf a1 σ)) := by
  refine xm_of hl ok_y_codeOf (Nat.le_of_ble_eq_true rfl) ?_
  show xw_w (xk_k N) l ty_codeOf 0 [some (.int a1)] [] (n, u, σ, xr_0) (xe_v ei_i n u σ (fy_codeOf a1 σ))
  unfold fy_codeOf
  refine xw_iload0 dy_codeOf_0 ?_
  refine xw_ldc dy_codeOf_1 kc_y_73 ?_
  refine xw_iand dy_codeOf_3 ?_
  exact xw_iret dy_codeOf_4 rfl
def fy_readDescriptor (a1 : Int32) (a2 : Int32) (σ : xs_S) : xs_S := xl_l ((if (fy_isRaised σ) = 0 then (xu_u (fy_readByte (a1 + (0 : Int32)) (1 : Int32) σ).2 28 0 (fy_readByte (a1 + (0 : Int32)) (1 : Int32) σ).1) else σ)) (fun s1 => xl_l ((if (fy_isRaised s1) = 0 then (xu_u (fy_readByte (a1 + (1 : Int32)) (1 : Int32) s1).2 28 1 (fy_readByte (a1 + (1 : Int32)) (1 : Int32) s1).1) else s1)) (fun s2 => xl_l ((if (fy_isRaised s2) = 0 then (xu_u (fy_readByte (a1 + (2 : Int32)) (1 : Int32) s2).2 28 2 (fy_readByte (a1 + (2 : Int32)) (1 : Int32) s2).1) else s2)) (fun s3 => xl_l ((if (fy_isRaised s3) = 0 then (xu_u (fy_readByte (a1 + (3 : Int32)) (1 : Int32) s3).2 28 3 (fy_readByte (a1 + (3 : Int32)) (1 : Int32) s3).1) else s3)) (fun s4 => xl_l ((if (fy_isRaised s4) = 0 then (xu_u (fy_readByte (a1 + (4 : Int32)) (1 : Int32) s4).2 28 4 (fy_readByte (a1 + (4 : Int32)) (1 : Int32) s4).1) else s4)) (fun s5 => xl_l ((if (fy_isRaised s5) = 0 then (xu_u (fy_readByte (a1 + (5 : Int32)) (1 : Int32) s5).2 28 5 (fy_readByte (a1 + (5 : Int32)) (1 : Int32) s5).1) else s5)) (fun s6 => xl_l ((if (fy_isRaised s6) = 0 then (xu_u (fy_readByte (a1 + (6 : Int32)) (1 : Int32) s6).2 28 6 (fy_readByte (a1 + (6 : Int32)) (1 : Int32) s6).1) else s6)) (fun s7 => xl_l ((if (fy_isRaised s7) = 0 then (xu_u (fy_readByte (a1 + (7 : Int32)) (1 : Int32) s7).2 28 7 (fy_readByte (a1 + (7 : Int32)) (1 : Int32) s7).1) else s7)) (fun s8 => xl_l ((xu_u s8 22 (a2).toNatClampNeg ((s8 28 0) + ((256 : Int32) * (s8 28 1))))) (fun s9 => xl_l ((xu_u s9 23 (a2).toNatClampNeg ((s9 28 2) + ((256 : Int32) * (s9 28 3))))) (fun s10 => xl_l ((xu_u s10 24 (a2).toNatClampNeg ((s10 28 4) &&& (15 : Int32)))) (fun s11 => xl_l ((xu_u s11 25 (a2).toNatClampNeg ((s11 28 5) &&& (3 : Int32)))) (fun s12 => xl_l ((xu_u s12 26 (a2).toNatClampNeg ((if ((s12 28 5) &&& (128 : Int32)) = 0 then (0 : Int32) else (1 : Int32)) &&& 1))) (fun s13 => xl_l ((xu_u s13 27 (a2).toNatClampNeg ((s13 28 6) &&& (7 : Int32)))) (fun s14 => s14))))))))))))))
set_option maxRecDepth 100000 in
set_option maxHeartbeats 4000000 in
theorem my_readDescriptor {l : Launch} {N n u : Nat} {a1 : Int32} {a2 : Int32} {σ : xs_S} (hl : l.stackTraces = false) (hn : 29 ≤ n) (hp1 : vp_in a2 2) (hJ : yx_J σ) : xm_m (xk_k N) l ty_readDescriptor [.ref 18, .int a1, .int a2] (n, u, σ, xr_0) (xe_w n u (fy_readDescriptor a1 a2 σ)) := by
  refine xm_of hl ok_y_readDescriptor (Nat.le_of_ble_eq_true rfl) ?_
  show xw_w (xk_k N) l ty_readDescriptor 0 [some (.ref 18), some (.int a1), some (.int a2), none] [] (n, u, σ, xr_0) (xe_w n u (fy_readDescriptor a1 a2 σ))
  unfold fy_readDescriptor
  refine xw_iconst dy_readDescriptor_0 ki_0 ?_
  refine xw_istore3 dy_readDescriptor_1 (Nat.le_of_ble_eq_true rfl) rfl ?_
  refine xw_iload3 dy_readDescriptor_2 ?_
  refine xw_bipush dy_readDescriptor_3 kb_8 ?_
  refine xw_icmp_ge_f dy_readDescriptor_5 rfl (by decide) ?_
  refine xw_aload0 dy_readDescriptor_8 ?_
  refine xw_cVi dy_readDescriptor_9 (lk_y_readDescriptor_9 (xl_n hn (by decide)) rfl) ok_y_isRaised (my_isRaised hl hn) ⟨Nat.le_of_ble_eq_true rfl, Nat.le_of_ble_eq_true rfl⟩ ?_
  refine xw_if_ne_mw (J := 29) (a := (xu_u (fy_readByte (a1 + (0 : Int32)) (1 : Int32) σ).2 28 0 (fy_readByte (a1 + (0 : Int32)) (1 : Int32) σ).1)) (b := σ) dy_readDescriptor_12 rfl (fun _ E' k' => ?_) (fun _ E' k' => ?_) ?_
  · exact k'
  · refine xw_aload0 dy_readDescriptor_15 ?_
    refine xw_getR dy_readDescriptor_16 fl_y_42 (xl_n hn (by decide)) rfl r_18_18 ?_
    refine xw_iload3 dy_readDescriptor_19 ?_
    refine xw_aload0 dy_readDescriptor_20 ?_
    refine xw_iload1 dy_readDescriptor_21 ?_
    refine xw_iload3 dy_readDescriptor_22 ?_
    refine xw_iadd dy_readDescriptor_23 ?_
    refine xw_iconst dy_readDescriptor_24 ki_1 ?_
    refine xw_cPi dy_readDescriptor_25 (lk_y_readDescriptor_25 (xl_n hn (by decide)) rfl) ok_y_readByte (my_readByte hl hn hJ) ⟨Nat.le_of_ble_eq_true rfl, Nat.le_of_ble_eq_true rfl⟩ ?_
    refine xw_iast dy_readDescriptor_28 (by decide) (xl_n hn (by decide)) rfl vc_0_8 cn_0 ?_
    exact k'
  refine xw_lw (fun s1 e_s1 => ?_)
  have hJ_s1 : yx_J s1 := by rw [e_s1]; exact (xj_i (fun _ => (yx_u (jy_readByte hJ) (by decide))) (fun _ => hJ))
  refine xw_iinc3 dy_readDescriptor_29 ic_0_1 (Nat.le_of_ble_eq_true rfl) rfl ?_
  refine xw_goto dy_readDescriptor_32 rfl ?_
  refine xw_iload3 dy_readDescriptor_2 ?_
  refine xw_bipush dy_readDescriptor_3 kb_8 ?_
  refine xw_icmp_ge_f dy_readDescriptor_5 rfl (by decide) ?_
  refine xw_aload0 dy_readDescriptor_8 ?_
  refine xw_cVi dy_readDescriptor_9 (lk_y_readDescriptor_9 (xl_n hn (by decide)) rfl) ok_y_isRaised (my_isRaised hl hn) ⟨Nat.le_of_ble_eq_true rfl, Nat.le_of_ble_eq_true rfl⟩ ?_
  refine xw_if_ne_mw (J := 29) (a := (xu_u (fy_readByte (a1 + (1 : Int32)) (1 : Int32) s1).2 28 1 (fy_readByte (a1 + (1 : Int32)) (1 : Int32) s1).1)) (b := s1) dy_readDescriptor_12 rfl (fun _ E' k' => ?_) (fun _ E' k' => ?_) ?_
  · exact k'
  · refine xw_aload0 dy_readDescriptor_15 ?_
    refine xw_getR dy_readDescriptor_16 fl_y_42 (xl_n hn (by decide)) rfl r_18_18 ?_
    refine xw_iload3 dy_readDescriptor_19 ?_
    refine xw_aload0 dy_readDescriptor_20 ?_
    refine xw_iload1 dy_readDescriptor_21 ?_
    refine xw_iload3 dy_readDescriptor_22 ?_
    refine xw_iadd dy_readDescriptor_23 ?_
    refine xw_iconst dy_readDescriptor_24 ki_1 ?_
    refine xw_cPi dy_readDescriptor_25 (lk_y_readDescriptor_25 (xl_n hn (by decide)) rfl) ok_y_readByte (my_readByte hl hn hJ_s1) ⟨Nat.le_of_ble_eq_true rfl, Nat.le_of_ble_eq_true rfl⟩ ?_
    refine xw_iast dy_readDescriptor_28 (by decide) (xl_n hn (by decide)) rfl vc_1_8 cn_1 ?_
    exact k'
  refine xw_lw (fun s2 e_s2 => ?_)
  have hJ_s2 : yx_J s2 := by rw [e_s2]; exact (xj_i (fun _ => (yx_u (jy_readByte hJ_s1) (by decide))) (fun _ => hJ_s1))
  refine xw_iinc3 dy_readDescriptor_29 ic_1_1 (Nat.le_of_ble_eq_true rfl) rfl ?_
  refine xw_goto dy_readDescriptor_32 rfl ?_
  refine xw_iload3 dy_readDescriptor_2 ?_
  refine xw_bipush dy_readDescriptor_3 kb_8 ?_
  refine xw_icmp_ge_f dy_readDescriptor_5 rfl (by decide) ?_
  refine xw_aload0 dy_readDescriptor_8 ?_
  refine xw_cVi dy_readDescriptor_9 (lk_y_readDescriptor_9 (xl_n hn (by decide)) rfl) ok_y_isRaised (my_isRaised hl hn) ⟨Nat.le_of_ble_eq_true rfl, Nat.le_of_ble_eq_true rfl⟩ ?_
  refine xw_if_ne_mw (J := 29) (a := (xu_u (fy_readByte (a1 + (2 : Int32)) (1 : Int32) s2).2 28 2 (fy_readByte (a1 + (2 : Int32)) (1 : Int32) s2).1)) (b := s2) dy_readDescriptor_12 rfl (fun _ E' k' => ?_) (fun _ E' k' => ?_) ?_
  · exact k'
  · refine xw_aload0 dy_readDescriptor_15 ?_
    refine xw_getR dy_readDescriptor_16 fl_y_42 (xl_n hn (by decide)) rfl r_18_18 ?_
    refine xw_iload3 dy_readDescriptor_19 ?_
    refine xw_aload0 dy_readDescriptor_20 ?_
    refine xw_iload1 dy_readDescriptor_21 ?_
    refine xw_iload3 dy_readDescriptor_22 ?_
    refine xw_iadd dy_readDescriptor_23 ?_
    refine xw_iconst dy_readDescriptor_24 ki_1 ?_
    refine xw_cPi dy_readDescriptor_25 (lk_y_readDescriptor_25 (xl_n hn (by decide)) rfl) ok_y_readByte (my_readByte hl hn hJ_s2) ⟨Nat.le_of_ble_eq_true rfl, Nat.le_of_ble_eq_true rfl⟩ ?_
    refine xw_iast dy_readDescriptor_28 (by decide) (xl_n hn (by decide)) rfl vc_2_8 cn_2 ?_
    exact k'
  refine xw_lw (fun s3 e_s3 => ?_)
  have hJ_s3 : yx_J s3 := by rw [e_s3]; exact (xj_i (fun _ => (yx_u (jy_readByte hJ_s2) (by decide))) (fun _ => hJ_s2))
  refine xw_iinc3 dy_readDescriptor_29 ic_2_1 (Nat.le_of_ble_eq_true rfl) rfl ?_
  refine xw_goto dy_readDescriptor_32 rfl ?_
  refine xw_iload3 dy_readDescriptor_2 ?_
  refine xw_bipush dy_readDescriptor_3 kb_8 ?_
  refine xw_icmp_ge_f dy_readDescriptor_5 rfl (by decide) ?_
  refine xw_aload0 dy_readDescriptor_8 ?_
  refine xw_cVi dy_readDescriptor_9 (lk_y_readDescriptor_9 (xl_n hn (by decide)) rfl) ok_y_isRaised (my_isRaised hl hn) ⟨Nat.le_of_ble_eq_true rfl, Nat.le_of_ble_eq_true rfl⟩ ?_
  refine xw_if_ne_mw (J := 29) (a := (xu_u (fy_readByte (a1 + (3 : Int32)) (1 : Int32) s3).2 28 3 (fy_readByte (a1 + (3 : Int32)) (1 : Int32) s3).1)) (b := s3) dy_readDescriptor_12 rfl (fun _ E' k' => ?_) (fun _ E' k' => ?_) ?_
  · exact k'
  · refine xw_aload0 dy_readDescriptor_15 ?_
    refine xw_getR dy_readDescriptor_16 fl_y_42 (xl_n hn (by decide)) rfl r_18_18 ?_
    refine xw_iload3 dy_readDescriptor_19 ?_
    refine xw_aload0 dy_readDescriptor_20 ?_
    refine xw_iload1 dy_readDescriptor_21 ?_
    refine xw_iload3 dy_readDescriptor_22 ?_
    refine xw_iadd dy_readDescriptor_23 ?_
    refine xw_iconst dy_readDescriptor_24 ki_1 ?_
    refine xw_cPi dy_readDescriptor_25 (lk_y_readDescriptor_25 (xl_n hn (by decide)) rfl) ok_y_readByte (my_readByte hl hn hJ_s3) ⟨Nat.le_of_ble_eq_true rfl, Nat.le_of_ble_eq_true rfl⟩ ?_
    refine xw_iast dy_readDescriptor_28 (by decide) (xl_n hn (by decide)) rfl vc_3_8 cn_3 ?_
    exact k'
  refine xw_lw (fun s4 e_s4 => ?_)
  have hJ_s4 : yx_J s4 := by rw [e_s4]; exact (xj_i (fun _ => (yx_u (jy_readByte hJ_s3) (by decide))) (fun _ => hJ_s3))
  refine xw_iinc3 dy_readDescriptor_29 ic_3_1 (Nat.le_of_ble_eq_true rfl) rfl ?_
  refine xw_goto dy_readDescriptor_32 rfl ?_
  refine xw_iload3 dy_readDescriptor_2 ?_
  refine xw_bipush dy_readDescriptor_3 kb_8 ?_
  refine xw_icmp_ge_f dy_readDescriptor_5 rfl (by decide) ?_
  refine xw_aload0 dy_readDescriptor_8 ?_
  refine xw_cVi dy_readDescriptor_9 (lk_y_readDescriptor_9 (xl_n hn (by decide)) rfl) ok_y_isRaised (my_isRaised hl hn) ⟨Nat.le_of_ble_eq_true rfl, Nat.le_of_ble_eq_true rfl⟩ ?_
  refine xw_if_ne_mw (J := 29) (a := (xu_u (fy_readByte (a1 + (4 : Int32)) (1 : Int32) s4).2 28 4 (fy_readByte (a1 + (4 : Int32)) (1 : Int32) s4).1)) (b := s4) dy_readDescriptor_12 rfl (fun _ E' k' => ?_) (fun _ E' k' => ?_) ?_
  · exact k'
  · refine xw_aload0 dy_readDescriptor_15 ?_
    refine xw_getR dy_readDescriptor_16 fl_y_42 (xl_n hn (by decide)) rfl r_18_18 ?_
    refine xw_iload3 dy_readDescriptor_19 ?_
    refine xw_aload0 dy_readDescriptor_20 ?_
    refine xw_iload1 dy_readDescriptor_21 ?_
    refine xw_iload3 dy_readDescriptor_22 ?_
    refine xw_iadd dy_readDescriptor_23 ?_
    refine xw_iconst dy_readDescriptor_24 ki_1 ?_
    refine xw_cPi dy_readDescriptor_25 (lk_y_readDescriptor_25 (xl_n hn (by decide)) rfl) ok_y_readByte (my_readByte hl hn hJ_s4) ⟨Nat.le_of_ble_eq_true rfl, Nat.le_of_ble_eq_true rfl⟩ ?_
    refine xw_iast dy_readDescriptor_28 (by decide) (xl_n hn (by decide)) rfl vc_4_8 cn_4 ?_
    exact k'
  refine xw_lw (fun s5 e_s5 => ?_)
  have hJ_s5 : yx_J s5 := by rw [e_s5]; exact (xj_i (fun _ => (yx_u (jy_readByte hJ_s4) (by decide))) (fun _ => hJ_s4))
  refine xw_iinc3 dy_readDescriptor_29 ic_4_1 (Nat.le_of_ble_eq_true rfl) rfl ?_
  refine xw_goto dy_readDescriptor_32 rfl ?_
  refine xw_iload3 dy_readDescriptor_2 ?_
  refine xw_bipush dy_readDescriptor_3 kb_8 ?_
  refine xw_icmp_ge_f dy_readDescriptor_5 rfl (by decide) ?_
  refine xw_aload0 dy_readDescriptor_8 ?_
  refine xw_cVi dy_readDescriptor_9 (lk_y_readDescriptor_9 (xl_n hn (by decide)) rfl) ok_y_isRaised (my_isRaised hl hn) ⟨Nat.le_of_ble_eq_true rfl, Nat.le_of_ble_eq_true rfl⟩ ?_
  refine xw_if_ne_mw (J := 29) (a := (xu_u (fy_readByte (a1 + (5 : Int32)) (1 : Int32) s5).2 28 5 (fy_readByte (a1 + (5 : Int32)) (1 : Int32) s5).1)) (b := s5) dy_readDescriptor_12 rfl (fun _ E' k' => ?_) (fun _ E' k' => ?_) ?_
  · exact k'
  · refine xw_aload0 dy_readDescriptor_15 ?_
    refine xw_getR dy_readDescriptor_16 fl_y_42 (xl_n hn (by decide)) rfl r_18_18 ?_
    refine xw_iload3 dy_readDescriptor_19 ?_
    refine xw_aload0 dy_readDescriptor_20 ?_
    refine xw_iload1 dy_readDescriptor_21 ?_
    refine xw_iload3 dy_readDescriptor_22 ?_
    refine xw_iadd dy_readDescriptor_23 ?_
    refine xw_iconst dy_readDescriptor_24 ki_1 ?_
    refine xw_cPi dy_readDescriptor_25 (lk_y_readDescriptor_25 (xl_n hn (by decide)) rfl) ok_y_readByte (my_readByte hl hn hJ_s5) ⟨Nat.le_of_ble_eq_true rfl, Nat.le_of_ble_eq_true rfl⟩ ?_
    refine xw_iast dy_readDescriptor_28 (by decide) (xl_n hn (by decide)) rfl vc_5_8 cn_5 ?_
    exact k'
  refine xw_lw (fun s6 e_s6 => ?_)
  have hJ_s6 : yx_J s6 := by rw [e_s6]; exact (xj_i (fun _ => (yx_u (jy_readByte hJ_s5) (by decide))) (fun _ => hJ_s5))
  refine xw_iinc3 dy_readDescriptor_29 ic_5_1 (Nat.le_of_ble_eq_true rfl) rfl ?_
  refine xw_goto dy_readDescriptor_32 rfl ?_
  refine xw_iload3 dy_readDescriptor_2 ?_
  refine xw_bipush dy_readDescriptor_3 kb_8 ?_
  refine xw_icmp_ge_f dy_readDescriptor_5 rfl (by decide) ?_
  refine xw_aload0 dy_readDescriptor_8 ?_
  refine xw_cVi dy_readDescriptor_9 (lk_y_readDescriptor_9 (xl_n hn (by decide)) rfl) ok_y_isRaised (my_isRaised hl hn) ⟨Nat.le_of_ble_eq_true rfl, Nat.le_of_ble_eq_true rfl⟩ ?_
  refine xw_if_ne_mw (J := 29) (a := (xu_u (fy_readByte (a1 + (6 : Int32)) (1 : Int32) s6).2 28 6 (fy_readByte (a1 + (6 : Int32)) (1 : Int32) s6).1)) (b := s6) dy_readDescriptor_12 rfl (fun _ E' k' => ?_) (fun _ E' k' => ?_) ?_
  · exact k'
  · refine xw_aload0 dy_readDescriptor_15 ?_
    refine xw_getR dy_readDescriptor_16 fl_y_42 (xl_n hn (by decide)) rfl r_18_18 ?_
    refine xw_iload3 dy_readDescriptor_19 ?_
    refine xw_aload0 dy_readDescriptor_20 ?_
    refine xw_iload1 dy_readDescriptor_21 ?_
    refine xw_iload3 dy_readDescriptor_22 ?_
    refine xw_iadd dy_readDescriptor_23 ?_
    refine xw_iconst dy_readDescriptor_24 ki_1 ?_
    refine xw_cPi dy_readDescriptor_25 (lk_y_readDescriptor_25 (xl_n hn (by decide)) rfl) ok_y_readByte (my_readByte hl hn hJ_s6) ⟨Nat.le_of_ble_eq_true rfl, Nat.le_of_ble_eq_true rfl⟩ ?_
    refine xw_iast dy_readDescriptor_28 (by decide) (xl_n hn (by decide)) rfl vc_6_8 cn_6 ?_
    exact k'
  refine xw_lw (fun s7 e_s7 => ?_)
  have hJ_s7 : yx_J s7 := by rw [e_s7]; exact (xj_i (fun _ => (yx_u (jy_readByte hJ_s6) (by decide))) (fun _ => hJ_s6))
  refine xw_iinc3 dy_readDescriptor_29 ic_6_1 (Nat.le_of_ble_eq_true rfl) rfl ?_
  refine xw_goto dy_readDescriptor_32 rfl ?_
  refine xw_iload3 dy_readDescriptor_2 ?_
  refine xw_bipush dy_readDescriptor_3 kb_8 ?_
  refine xw_icmp_ge_f dy_readDescriptor_5 rfl (by decide) ?_
  refine xw_aload0 dy_readDescriptor_8 ?_
  refine xw_cVi dy_readDescriptor_9 (lk_y_readDescriptor_9 (xl_n hn (by decide)) rfl) ok_y_isRaised (my_isRaised hl hn) ⟨Nat.le_of_ble_eq_true rfl, Nat.le_of_ble_eq_true rfl⟩ ?_
  refine xw_if_ne_mw (J := 29) (a := (xu_u (fy_readByte (a1 + (7 : Int32)) (1 : Int32) s7).2 28 7 (fy_readByte (a1 + (7 : Int32)) (1 : Int32) s7).1)) (b := s7) dy_readDescriptor_12 rfl (fun _ E' k' => ?_) (fun _ E' k' => ?_) ?_
  · exact k'
  · refine xw_aload0 dy_readDescriptor_15 ?_
    refine xw_getR dy_readDescriptor_16 fl_y_42 (xl_n hn (by decide)) rfl r_18_18 ?_
    refine xw_iload3 dy_readDescriptor_19 ?_
    refine xw_aload0 dy_readDescriptor_20 ?_
    refine xw_iload1 dy_readDescriptor_21 ?_
    refine xw_iload3 dy_readDescriptor_22 ?_
    refine xw_iadd dy_readDescriptor_23 ?_
    refine xw_iconst dy_readDescriptor_24 ki_1 ?_
    refine xw_cPi dy_readDescriptor_25 (lk_y_readDescriptor_25 (xl_n hn (by decide)) rfl) ok_y_readByte (my_readByte hl hn hJ_s7) ⟨Nat.le_of_ble_eq_true rfl, Nat.le_of_ble_eq_true rfl⟩ ?_
    refine xw_iast dy_readDescriptor_28 (by decide) (xl_n hn (by decide)) rfl vc_7_8 cn_7 ?_
    exact k'
  refine xw_lw (fun s8 e_s8 => ?_)
  have hJ_s8 : yx_J s8 := by rw [e_s8]; exact (xj_i (fun _ => (yx_u (jy_readByte hJ_s7) (by decide))) (fun _ => hJ_s7))
  refine xw_iinc3 dy_readDescriptor_29 ic_7_1 (Nat.le_of_ble_eq_true rfl) rfl ?_
  refine xw_goto dy_readDescriptor_32 rfl ?_
  refine xw_iload3 dy_readDescriptor_2 ?_
  refine xw_bipush dy_readDescriptor_3 kb_8 ?_
  refine xw_icmp_ge_t dy_readDescriptor_5 rfl (by decide) ?_
  refine xw_aload0 dy_readDescriptor_35 ?_
  refine xw_getR dy_readDescriptor_36 fl_y_23 (xl_n hn (by decide)) rfl r_18_12 ?_
  refine xw_iload2 dy_readDescriptor_39 ?_
  refine xw_aload0 dy_readDescriptor_40 ?_
  refine xw_getR dy_readDescriptor_41 fl_y_42 (xl_n hn (by decide)) rfl r_18_18 ?_
  refine xw_iconst dy_readDescriptor_44 ki_0 ?_
  refine xw_iald dy_readDescriptor_45 (xl_n hn (by decide)) rfl vc_0_8 cn_0 ?_
  refine xw_sipush dy_readDescriptor_46 ks_256 ?_
  refine xw_aload0 dy_readDescriptor_49 ?_
  refine xw_getR dy_readDescriptor_50 fl_y_42 (xl_n hn (by decide)) rfl r_18_18 ?_
  refine xw_iconst dy_readDescriptor_53 ki_1 ?_
  refine xw_iald dy_readDescriptor_54 (xl_n hn (by decide)) rfl vc_1_8 cn_1 ?_
  refine xw_imul dy_readDescriptor_55 ?_
  refine xw_iadd dy_readDescriptor_56 ?_
  refine xw_iast dy_readDescriptor_57 (by decide) (xl_n hn (by decide)) rfl hp1 rfl ?_
  refine xw_lw (fun s9 e_s9 => ?_)
  have hJ_s9 : yx_J s9 := by rw [e_s9]; exact (yx_c hJ_s8 (by decide))
  refine xw_aload0 dy_readDescriptor_58 ?_
  refine xw_getR dy_readDescriptor_59 fl_y_26 (xl_n hn (by decide)) rfl r_18_13 ?_
  refine xw_iload2 dy_readDescriptor_62 ?_
  refine xw_aload0 dy_readDescriptor_63 ?_
  refine xw_getR dy_readDescriptor_64 fl_y_42 (xl_n hn (by decide)) rfl r_18_18 ?_
  refine xw_iconst dy_readDescriptor_67 ki_2 ?_
  refine xw_iald dy_readDescriptor_68 (xl_n hn (by decide)) rfl vc_2_8 cn_2 ?_
  refine xw_sipush dy_readDescriptor_69 ks_256 ?_
  refine xw_aload0 dy_readDescriptor_72 ?_
  refine xw_getR dy_readDescriptor_73 fl_y_42 (xl_n hn (by decide)) rfl r_18_18 ?_
  refine xw_iconst dy_readDescriptor_76 ki_3 ?_
  refine xw_iald dy_readDescriptor_77 (xl_n hn (by decide)) rfl vc_3_8 cn_3 ?_
  refine xw_imul dy_readDescriptor_78 ?_
  refine xw_iadd dy_readDescriptor_79 ?_
  refine xw_iast dy_readDescriptor_80 (by decide) (xl_n hn (by decide)) rfl hp1 rfl ?_
  refine xw_lw (fun s10 e_s10 => ?_)
  have hJ_s10 : yx_J s10 := by rw [e_s10]; exact (yx_c hJ_s9 (by decide))
  refine xw_aload0 dy_readDescriptor_81 ?_
  refine xw_getR dy_readDescriptor_82 fl_y_29 (xl_n hn (by decide)) rfl r_18_14 ?_
  refine xw_iload2 dy_readDescriptor_85 ?_
  refine xw_aload0 dy_readDescriptor_86 ?_
  refine xw_getR dy_readDescriptor_87 fl_y_42 (xl_n hn (by decide)) rfl r_18_18 ?_
  refine xw_iconst dy_readDescriptor_90 ki_4 ?_
  refine xw_iald dy_readDescriptor_91 (xl_n hn (by decide)) rfl vc_4_8 cn_4 ?_
  refine xw_bipush dy_readDescriptor_92 kb_15 ?_
  refine xw_iand dy_readDescriptor_94 ?_
  refine xw_iast dy_readDescriptor_95 (by decide) (xl_n hn (by decide)) rfl hp1 rfl ?_
  refine xw_lw (fun s11 e_s11 => ?_)
  have hJ_s11 : yx_J s11 := by rw [e_s11]; exact (yx_c hJ_s10 (by decide))
  refine xw_aload0 dy_readDescriptor_96 ?_
  refine xw_getR dy_readDescriptor_97 fl_y_32 (xl_n hn (by decide)) rfl r_18_15 ?_
  refine xw_iload2 dy_readDescriptor_100 ?_
  refine xw_aload0 dy_readDescriptor_101 ?_
  refine xw_getR dy_readDescriptor_102 fl_y_42 (xl_n hn (by decide)) rfl r_18_18 ?_
  refine xw_iconst dy_readDescriptor_105 ki_5 ?_
  refine xw_iald dy_readDescriptor_106 (xl_n hn (by decide)) rfl vc_5_8 cn_5 ?_
  refine xw_iconst dy_readDescriptor_107 ki_3 ?_
  refine xw_iand dy_readDescriptor_108 ?_
  refine xw_iast dy_readDescriptor_109 (by decide) (xl_n hn (by decide)) rfl hp1 rfl ?_
  refine xw_lw (fun s12 e_s12 => ?_)
  have hJ_s12 : yx_J s12 := by rw [e_s12]; exact (yx_c hJ_s11 (by decide))
  refine xw_aload0 dy_readDescriptor_110 ?_
  refine xw_getR dy_readDescriptor_111 fl_y_35 (xl_n hn (by decide)) rfl r_18_16 ?_
  refine xw_iload2 dy_readDescriptor_114 ?_
  refine xw_aload0 dy_readDescriptor_115 ?_
  refine xw_getR dy_readDescriptor_116 fl_y_42 (xl_n hn (by decide)) rfl r_18_18 ?_
  refine xw_iconst dy_readDescriptor_119 ki_5 ?_
  refine xw_iald dy_readDescriptor_120 (xl_n hn (by decide)) rfl vc_5_8 cn_5 ?_
  refine xw_sipush dy_readDescriptor_121 ks_128 ?_
  refine xw_iand dy_readDescriptor_124 ?_
  refine xw_if_eq_mi (J := 133) (a := (0 : Int32)) (b := (1 : Int32)) dy_readDescriptor_125 rfl (fun _ E' k' => ?_) (fun _ E' k' => ?_) ?_
  · refine xw_iconst dy_readDescriptor_132 ki_0 ?_
    exact k'
  · refine xw_iconst dy_readDescriptor_128 ki_1 ?_
    refine xw_goto dy_readDescriptor_129 rfl ?_
    exact k'
  refine xw_zast dy_readDescriptor_133 (by decide) (xl_n hn (by decide)) rfl hp1 rfl ?_
  refine xw_lw (fun s13 e_s13 => ?_)
  have hJ_s13 : yx_J s13 := by rw [e_s13]; exact (yx_c hJ_s12 (by decide))
  refine xw_aload0 dy_readDescriptor_134 ?_
  refine xw_getR dy_readDescriptor_135 fl_y_39 (xl_n hn (by decide)) rfl r_18_17 ?_
  refine xw_iload2 dy_readDescriptor_138 ?_
  refine xw_aload0 dy_readDescriptor_139 ?_
  refine xw_getR dy_readDescriptor_140 fl_y_42 (xl_n hn (by decide)) rfl r_18_18 ?_
  refine xw_bipush dy_readDescriptor_143 kb_6 ?_
  refine xw_iald dy_readDescriptor_145 (xl_n hn (by decide)) rfl vc_6_8 cn_6 ?_
  refine xw_bipush dy_readDescriptor_146 kb_7 ?_
  refine xw_iand dy_readDescriptor_148 ?_
  refine xw_iast dy_readDescriptor_149 (by decide) (xl_n hn (by decide)) rfl hp1 rfl ?_
  refine xw_lw (fun s14 e_s14 => ?_)
  have hJ_s14 : yx_J s14 := by rw [e_s14]; exact (yx_n hJ_s13)
  exact xw_vret dy_readDescriptor_150 rfl
theorem jy_readDescriptor {a1 : Int32} {a2 : Int32} {σ : xs_S} (hp1 : vp_in a2 2) (hJ : yx_J σ) : yx_J (fy_readDescriptor a1 a2 σ) := by
  unfold fy_readDescriptor
  refine xj_wl (fun s1 e_s1 => ?_)
  have hJ_s1 : yx_J s1 := by rw [e_s1]; exact (xj_i (fun _ => (yx_u (jy_readByte hJ) (by decide))) (fun _ => hJ))
  refine xj_wl (fun s2 e_s2 => ?_)
  have hJ_s2 : yx_J s2 := by rw [e_s2]; exact (xj_i (fun _ => (yx_u (jy_readByte hJ_s1) (by decide))) (fun _ => hJ_s1))
  refine xj_wl (fun s3 e_s3 => ?_)
  have hJ_s3 : yx_J s3 := by rw [e_s3]; exact (xj_i (fun _ => (yx_u (jy_readByte hJ_s2) (by decide))) (fun _ => hJ_s2))
  refine xj_wl (fun s4 e_s4 => ?_)
  have hJ_s4 : yx_J s4 := by rw [e_s4]; exact (xj_i (fun _ => (yx_u (jy_readByte hJ_s3) (by decide))) (fun _ => hJ_s3))
  refine xj_wl (fun s5 e_s5 => ?_)
  have hJ_s5 : yx_J s5 := by rw [e_s5]; exact (xj_i (fun _ => (yx_u (jy_readByte hJ_s4) (by decide))) (fun _ => hJ_s4))
  refine xj_wl (fun s6 e_s6 => ?_)
  have hJ_s6 : yx_J s6 := by rw [e_s6]; exact (xj_i (fun _ => (yx_u (jy_readByte hJ_s5) (by decide))) (fun _ => hJ_s5))
  refine xj_wl (fun s7 e_s7 => ?_)
  have hJ_s7 : yx_J s7 := by rw [e_s7]; exact (xj_i (fun _ => (yx_u (jy_readByte hJ_s6) (by decide))) (fun _ => hJ_s6))
  refine xj_wl (fun s8 e_s8 => ?_)
  have hJ_s8 : yx_J s8 := by rw [e_s8]; exact (xj_i (fun _ => (yx_u (jy_readByte hJ_s7) (by decide))) (fun _ => hJ_s7))
  refine xj_wl (fun s9 e_s9 => ?_)
  have hJ_s9 : yx_J s9 := by rw [e_s9]; exact (yx_c hJ_s8 (by decide))
  refine xj_wl (fun s10 e_s10 => ?_)
  have hJ_s10 : yx_J s10 := by rw [e_s10]; exact (yx_c hJ_s9 (by decide))
  refine xj_wl (fun s11 e_s11 => ?_)
  have hJ_s11 : yx_J s11 := by rw [e_s11]; exact (yx_c hJ_s10 (by decide))
  refine xj_wl (fun s12 e_s12 => ?_)
  have hJ_s12 : yx_J s12 := by rw [e_s12]; exact (yx_c hJ_s11 (by decide))
  refine xj_wl (fun s13 e_s13 => ?_)
  have hJ_s13 : yx_J s13 := by rw [e_s13]; exact (yx_c hJ_s12 (by decide))
  refine xj_wl (fun s14 e_s14 => ?_)
  have hJ_s14 : yx_J s14 := by rw [e_s14]; exact (yx_n hJ_s13)
  exact hJ_s14
def fy_lookUp (a1 : Int32) (a2 : Int32) (σ : xs_S) : xs_S := (if (a1 / (4 : Int32)) < (σ 18 3) then xl_l ((fy_readDescriptor ((σ 18 2) + ((8 : Int32) * (a1 / (4 : Int32)))) a2 σ)) (fun s2 => s2) else xl_l ((fy_raise (13 : Int32) (fy_codeOf a1 σ) σ)) (fun s3 => s3))
set_option maxRecDepth 100000 in
set_option maxHeartbeats 4000000 in
theorem my_lookUp {l : Launch} {N n u : Nat} {a1 : Int32} {a2 : Int32} {σ : xs_S} (hl : l.stackTraces = false) (hn : 29 ≤ n) (hp1 : vp_in a2 2) (hJ : yx_J σ) : xm_m (xk_k N) l ty_lookUp [.ref 18, .int a1, .int a2] (n, u, σ, xr_0) (xe_w n u (fy_lookUp a1 a2 σ)) := by
  refine xm_of hl ok_y_lookUp (Nat.le_of_ble_eq_true rfl) ?_
  show xw_w (xk_k N) l ty_lookUp 0 [some (.ref 18), some (.int a1), some (.int a2)] [] (n, u, σ, xr_0) (xe_w n u (fy_lookUp a1 a2 σ))
  unfold fy_lookUp
  refine xw_iload1 dy_lookUp_0 ?_
  refine xw_iconst dy_lookUp_1 ki_4 ?_
  refine xw_idiv dy_lookUp_2 nz_4 ?_
  refine xw_aload0 dy_lookUp_3 ?_
  refine xw_getI dy_lookUp_4 fl_y_74 (by decide) (xl_n hn (by decide)) rfl ?_
  refine xw_icmp_lt' dy_lookUp_7 rfl (fun h1 => ?_) (fun h1 => ?_)
  · refine xw_aload0 dy_lookUp_23 ?_
    refine xw_aload0 dy_lookUp_24 ?_
    refine xw_getI dy_lookUp_25 fl_y_81 (by decide) (xl_n hn (by decide)) rfl ?_
    refine xw_bipush dy_lookUp_28 kb_8 ?_
    refine xw_iload1 dy_lookUp_30 ?_
    refine xw_iconst dy_lookUp_31 ki_4 ?_
    refine xw_idiv dy_lookUp_32 nz_4 ?_
    refine xw_imul dy_lookUp_33 ?_
    refine xw_iadd dy_lookUp_34 ?_
    refine xw_iload2 dy_lookUp_35 ?_
    refine xw_cW dy_lookUp_36 (lk_y_lookUp_36 (xl_n hn (by decide)) rfl) ok_y_readDescriptor (my_readDescriptor hl hn hp1 hJ) ⟨Nat.le_of_ble_eq_true rfl, Nat.le_of_ble_eq_true rfl⟩ ?_
    refine xw_lw (fun s2 e_s2 => ?_)
    have hJ_s2 : yx_J s2 := by rw [e_s2]; exact (jy_readDescriptor hp1 hJ)
    exact xw_vret dy_lookUp_39 rfl
  · refine xw_aload0 dy_lookUp_10 ?_
    refine xw_bipush dy_lookUp_11 kb_13 ?_
    refine xw_iload1 dy_lookUp_13 ?_
    refine xw_cVi dy_lookUp_14 (lk_y_lookUp_14) ok_y_codeOf (my_codeOf hl hn) ⟨Nat.le_of_ble_eq_true rfl, Nat.le_of_ble_eq_true rfl⟩ ?_
    refine xw_cW dy_lookUp_17 (lk_y_lookUp_17 (xl_n hn (by decide)) rfl) ok_y_raise (my_raise hl hn) ⟨Nat.le_of_ble_eq_true rfl, Nat.le_of_ble_eq_true rfl⟩ ?_
    refine xw_lw (fun s3 e_s3 => ?_)
    have hJ_s3 : yx_J s3 := by rw [e_s3]; exact (jy_raise hJ)
    refine xw_goto dy_lookUp_20 rfl ?_
    exact xw_vret dy_lookUp_39 rfl
theorem jy_lookUp {a1 : Int32} {a2 : Int32} {σ : xs_S} (hp1 : vp_in a2 2) (hJ : yx_J σ) : yx_J (fy_lookUp a1 a2 σ) := by
  unfold fy_lookUp
  refine xj_wf (fun h1 => ?_) (fun h1 => ?_)
  · refine xj_wl (fun s2 e_s2 => ?_)
    have hJ_s2 : yx_J s2 := by rw [e_s2]; exact (jy_readDescriptor hp1 hJ)
    exact hJ_s2
  · refine xj_wl (fun s3 e_s3 => ?_)
    have hJ_s3 : yx_J s3 := by rw [e_s3]; exact (jy_raise hJ)
    exact hJ_s3
def fy_setSegment (a1 : Int32) (a2 : Int32) (a3 : Int32) (σ : xs_S) : xs_S := xl_l ((xu_u σ 20 (a1).toNatClampNeg a2)) (fun s1 => xl_l ((xu_u s1 20 (((3 : Int32) + a1)).toNatClampNeg (0 : Int32))) (fun s2 => xl_l ((xu_u s2 20 (((6 : Int32) + a1)).toNatClampNeg (s2 22 (a3).toNatClampNeg))) (fun s3 => xl_l ((xu_u s3 20 (((9 : Int32) + a1)).toNatClampNeg (s3 23 (a3).toNatClampNeg))) (fun s4 => xl_l ((xu_u s4 20 (((12 : Int32) + a1)).toNatClampNeg (s4 24 (a3).toNatClampNeg))) (fun s5 => xl_l ((xu_u s5 20 (((15 : Int32) + a1)).toNatClampNeg (s5 25 (a3).toNatClampNeg))) (fun s6 => s6))))))
set_option maxRecDepth 100000 in
set_option maxHeartbeats 4000000 in
theorem my_setSegment {l : Launch} {N n u : Nat} {a1 : Int32} {a2 : Int32} {a3 : Int32} {σ : xs_S} (hl : l.stackTraces = false) (hn : 29 ≤ n) (hp1 : vp_in a1 3) (hp2 : vp_in a3 2) : xm_m (xk_k N) l ty_setSegment [.ref 18, .int a1, .int a2, .int a3] (n, u, σ, xr_0) (xe_w n u (fy_setSegment a1 a2 a3 σ)) := by
  refine xm_of hl ok_y_setSegment (Nat.le_of_ble_eq_true rfl) ?_
  show xw_w (xk_k N) l ty_setSegment 0 [some (.ref 18), some (.int a1), some (.int a2), some (.int a3)] [] (n, u, σ, xr_0) (xe_w n u (fy_setSegment a1 a2 a3 σ))
  unfold fy_setSegment
  refine xw_aload0 dy_setSegment_0 ?_
  refine xw_getR dy_setSegment_1 fl_y_13 (xl_n hn (by decide)) rfl r_18_5 ?_
  refine xw_iload1 dy_setSegment_4 ?_
  refine xw_iload2 dy_setSegment_5 ?_
  refine xw_iast dy_setSegment_6 (by decide) (xl_n hn (by decide)) rfl (vs_0 hp1) rfl ?_
  refine xw_lw (fun s1 e_s1 => ?_)
  refine xw_aload0 dy_setSegment_7 ?_
  refine xw_getR dy_setSegment_8 fl_y_13 (xl_n hn (by decide)) rfl r_18_5 ?_
  refine xw_iconst dy_setSegment_11 ki_3 ?_
  refine xw_iload1 dy_setSegment_12 ?_
  refine xw_iadd dy_setSegment_13 ?_
  refine xw_iconst dy_setSegment_14 ki_0 ?_
  refine xw_iast dy_setSegment_15 (by decide) (xl_n hn (by decide)) rfl (vs_k hp1 (by decide)) rfl ?_
  refine xw_lw (fun s2 e_s2 => ?_)
  refine xw_aload0 dy_setSegment_16 ?_
  refine xw_getR dy_setSegment_17 fl_y_13 (xl_n hn (by decide)) rfl r_18_5 ?_
  refine xw_bipush dy_setSegment_20 kb_6 ?_
  refine xw_iload1 dy_setSegment_22 ?_
  refine xw_iadd dy_setSegment_23 ?_
  refine xw_aload0 dy_setSegment_24 ?_
  refine xw_getR dy_setSegment_25 fl_y_23 (xl_n hn (by decide)) rfl r_18_12 ?_
  refine xw_iload3 dy_setSegment_28 ?_
  refine xw_iald dy_setSegment_29 (xl_n hn (by decide)) rfl hp2 rfl ?_
  refine xw_iast dy_setSegment_30 (by decide) (xl_n hn (by decide)) rfl (vs_k hp1 (by decide)) rfl ?_
  refine xw_lw (fun s3 e_s3 => ?_)
  refine xw_aload0 dy_setSegment_31 ?_
  refine xw_getR dy_setSegment_32 fl_y_13 (xl_n hn (by decide)) rfl r_18_5 ?_
  refine xw_bipush dy_setSegment_35 kb_9 ?_
  refine xw_iload1 dy_setSegment_37 ?_
  refine xw_iadd dy_setSegment_38 ?_
  refine xw_aload0 dy_setSegment_39 ?_
  refine xw_getR dy_setSegment_40 fl_y_26 (xl_n hn (by decide)) rfl r_18_13 ?_
  refine xw_iload3 dy_setSegment_43 ?_
  refine xw_iald dy_setSegment_44 (xl_n hn (by decide)) rfl hp2 rfl ?_
  refine xw_iast dy_setSegment_45 (by decide) (xl_n hn (by decide)) rfl (vs_k hp1 (by decide)) rfl ?_
  refine xw_lw (fun s4 e_s4 => ?_)
  refine xw_aload0 dy_setSegment_46 ?_
  refine xw_getR dy_setSegment_47 fl_y_13 (xl_n hn (by decide)) rfl r_18_5 ?_
  refine xw_bipush dy_setSegment_50 kb_12 ?_
  refine xw_iload1 dy_setSegment_52 ?_
  refine xw_iadd dy_setSegment_53 ?_
  refine xw_aload0 dy_setSegment_54 ?_
  refine xw_getR dy_setSegment_55 fl_y_29 (xl_n hn (by decide)) rfl r_18_14 ?_
  refine xw_iload3 dy_setSegment_58 ?_
  refine xw_iald dy_setSegment_59 (xl_n hn (by decide)) rfl hp2 rfl ?_
  refine xw_iast dy_setSegment_60 (by decide) (xl_n hn (by decide)) rfl (vs_k hp1 (by decide)) rfl ?_
  refine xw_lw (fun s5 e_s5 => ?_)
  refine xw_aload0 dy_setSegment_61 ?_
  refine xw_getR dy_setSegment_62 fl_y_13 (xl_n hn (by decide)) rfl r_18_5 ?_
  refine xw_bipush dy_setSegment_65 kb_15 ?_
  refine xw_iload1 dy_setSegment_67 ?_
  refine xw_iadd dy_setSegment_68 ?_
  refine xw_aload0 dy_setSegment_69 ?_
  refine xw_getR dy_setSegment_70 fl_y_32 (xl_n hn (by decide)) rfl r_18_15 ?_
  refine xw_iload3 dy_setSegment_73 ?_
  refine xw_iald dy_setSegment_74 (xl_n hn (by decide)) rfl hp2 rfl ?_
  refine xw_iast dy_setSegment_75 (by decide) (xl_n hn (by decide)) rfl (vs_k hp1 (by decide)) rfl ?_
  refine xw_lw (fun s6 e_s6 => ?_)
  exact xw_vret dy_setSegment_76 rfl
theorem jy_setSegment {a1 : Int32} {a2 : Int32} {a3 : Int32} {σ : xs_S} (hp1 : vp_in a1 3) (hp2 : vp_in a3 2) (hJ : yx_J σ) : yx_J (fy_setSegment a1 a2 a3 σ) := by
  unfold fy_setSegment
  refine xj_wl (fun s1 e_s1 => ?_)
  have hJ_s1 : yx_J s1 := by rw [e_s1]; exact (yx_r hJ (vs_m hp1))
  refine xj_wl (fun s2 e_s2 => ?_)
  have hJ_s2 : yx_J s2 := by rw [e_s2]; exact (yx_r hJ_s1 (vs_n hp1 (by decide)))
  refine xj_wl (fun s3 e_s3 => ?_)
  have hJ_s3 : yx_J s3 := by rw [e_s3]; exact (yx_r hJ_s2 (vs_n hp1 (by decide)))
  refine xj_wl (fun s4 e_s4 => ?_)
  have hJ_s4 : yx_J s4 := by rw [e_s4]; exact (yx_r hJ_s3 (vs_n hp1 (by decide)))
  refine xj_wl (fun s5 e_s5 => ?_)
  have hJ_s5 : yx_J s5 := by rw [e_s5]; exact (yx_r hJ_s4 (vs_n hp1 (by decide)))
  refine xj_wl (fun s6 e_s6 => ?_)
  have hJ_s6 : yx_J s6 := by rw [e_s6]; exact (yx_r hJ_s5 (vs_n hp1 (by decide)))
  exact hJ_s6
