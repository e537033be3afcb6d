def fy_transfer (a1 : Int32) (a2 : Int32) (a3 : Int32) (σ : xs_S) : xs_S := xl_l ((if (fy_isNull a1 σ) = 0 then (fy_lookUp a1 (0 : Int32) σ) else (fy_raise (13 : Int32) (0 : Int32) σ))) (fun s1 => (if (fy_isRaised s1) = 0 then xl_l ((a1 &&& (3 : Int32))) (fun v3 => xl_l ((if (fy_isDirect s1) = 0 then (0 : Int32) else (if (s1 24 0) = (2 : Int32) then (1 : Int32) else (if (s1 20 21) < v3 then (0 : Int32) else (1 : Int32))))) (fun v4 => xl_l ((if (s1 24 0) = (7 : Int32) then (if (s1 25 0) < (s1 20 21) then (0 : Int32) else (if (s1 25 0) < v3 then (0 : Int32) else (1 : Int32))) else (if (s1 24 0) = (5 : Int32) then (if (s1 25 0) < (s1 20 21) then (0 : Int32) else (if (s1 25 0) < v3 then (0 : Int32) else (1 : Int32))) else (0 : Int32)))) (fun v5 => xl_l ((if v4 = 0 then (if v5 = 0 then (fy_raise (13 : Int32) (fy_codeOf a1 s1) s1) else (if (s1 26 0) = 0 then (fy_raise (11 : Int32) (fy_codeOf a1 s1) s1) else s1)) else (if (s1 26 0) = 0 then (fy_raise (11 : Int32) (fy_codeOf a1 s1) s1) else s1))) (fun s6 => (if (fy_isRaised s6) = 0 then (if v4 = 0 then (if (s6 24 0) = (5 : Int32) then xl_l ((fy_switchTo a1 (if a3 = 0 then (0 : Int32) else (1 : Int32)) s6)) (fun s11 => s11) else xl_l ((fy_through (s6 23 0) (s6 22 0) (s6 27 0) (if a3 = 0 then (1 : Int32) else (0 : Int32)) (0 : Int32) (fy_nextIp s6) s6)) (fun s10 => s10)) else xl_l ((if a3 = 0 then s6 else (fy_pushWord (s6 20 0) s6))) (fun s12 => xl_l ((if a3 = 0 then s12 else (fy_pushWord (fy_nextIp s12) s12))) (fun s13 => xl_l ((fy_enter a1 a2 s13)) (fun s14 => s14)))) else s6))))) else s1))
set_option maxRecDepth 100000 in
set_option maxHeartbeats 4000000 in
theorem my_transfer {l : Launch} {N n u : Nat} {a1 : Int32} {a2 : Int32} {a3 : Int32} {σ : xs_S} (hl : l.stackTraces = false) (hn : 29 ≤ n) (hJ : yx_J σ) : xm_m (xk_k N) l ty_transfer [.ref 18, .int a1, .int a2, .int a3] (n, u, σ, xr_0) (xe_w n u (fy_transfer a1 a2 a3 σ)) := by
  refine xm_of hl ok_y_transfer (Nat.le_of_ble_eq_true rfl) ?_
  show xw_w (xk_k N) l ty_transfer 0 [some (.ref 18), some (.int a1), some (.int a2), some (.int a3), none, none, none] [] (n, u, σ, xr_0) (xe_w n u (fy_transfer a1 a2 a3 σ))
  unfold fy_transfer
  refine xw_iload1 dy_transfer_0 ?_
  refine xw_cVi dy_transfer_1 (lk_y_transfer_1) ok_y_isNull (my_isNull hl hn) ⟨Nat.le_of_ble_eq_true rfl, Nat.le_of_ble_eq_true rfl⟩ ?_
  refine xw_if_eq_mw (J := 23) (a := (fy_lookUp a1 (0 : Int32) σ)) (b := (fy_raise (13 : Int32) (0 : Int32) σ)) dy_transfer_4 rfl (fun _ E' k' => ?_) (fun _ E' k' => ?_) ?_
  · refine xw_aload0 dy_transfer_17 ?_
    refine xw_iload1 dy_transfer_18 ?_
    refine xw_iconst dy_transfer_19 ki_0 ?_
    refine xw_cW dy_transfer_20 (lk_y_transfer_20 (xl_n hn (by decide)) rfl) ok_y_lookUp (my_lookUp hl hn vc_0_2 hJ) ⟨Nat.le_of_ble_eq_true rfl, Nat.le_of_ble_eq_true rfl⟩ ?_
    exact k'
  · refine xw_aload0 dy_transfer_7 ?_
    refine xw_bipush dy_transfer_8 kb_13 ?_
    refine xw_iconst dy_transfer_10 ki_0 ?_
    refine xw_cW dy_transfer_11 (lk_y_transfer_11 (xl_n hn (by decide)) rfl) ok_y_raise (my_raise hl hn) ⟨Nat.le_of_ble_eq_true rfl, Nat.le_of_ble_eq_true rfl⟩ ?_
    refine xw_goto dy_transfer_14 rfl ?_
    exact k'
  refine xw_lw (fun s1 e_s1 => ?_)
  have hJ_s1 : yx_J s1 := by rw [e_s1]; exact (xj_i (fun _ => (jy_lookUp vc_0_2 hJ)) (fun _ => (jy_raise hJ)))
  refine xw_aload0 dy_transfer_23 ?_
  refine xw_cVi dy_transfer_24 (lk_y_transfer_24 (xl_n hn (by decide)) rfl) ok_y_isRaised (my_isRaised hl hn) ⟨Nat.le_of_ble_eq_true rfl, Nat.le_of_ble_eq_true rfl⟩ ?_
  refine xw_if_eq' dy_transfer_27 rfl (fun h2 => ?_) (fun h2 => ?_)
  · refine xw_iload1 dy_transfer_31 ?_
    refine xw_iconst dy_transfer_32 ki_3 ?_
    refine xw_iand dy_transfer_33 ?_
    refine xw_li (fun v3 e_v3 => ?_)
    refine xw_istore4 dy_transfer_34 (Nat.le_of_ble_eq_true rfl) rfl ?_
    refine xw_aload0 dy_transfer_36 ?_
    refine xw_cVi dy_transfer_37 (lk_y_transfer_37 (xl_n hn (by decide)) rfl) ok_y_isDirect (my_isDirect hl hn) ⟨Nat.le_of_ble_eq_true rfl, Nat.le_of_ble_eq_true rfl⟩ ?_
    refine xw_if_eq_mi (J := 70) (a := (0 : Int32)) (b := (if (s1 24 0) = (2 : Int32) then (1 : Int32) else (if (s1 20 21) < v3 then (0 : Int32) else (1 : Int32)))) dy_transfer_40 rfl (fun _ E' k' => ?_) (fun _ E' k' => ?_) ?_
    · refine xw_iconst dy_transfer_69 ki_0 ?_
      exact k'
    · refine xw_aload0 dy_transfer_43 ?_
      refine xw_getR dy_transfer_44 fl_y_29 (xl_n hn (by decide)) rfl r_18_14 ?_
      refine xw_iconst dy_transfer_47 ki_0 ?_
      refine xw_iald dy_transfer_48 (xl_n hn (by decide)) rfl vc_0_2 cn_0 ?_
      refine xw_iconst dy_transfer_49 ki_2 ?_
      refine xw_icmp_eq_mi (J := 70) (a := (1 : Int32)) (b := (if (s1 20 21) < v3 then (0 : Int32) else (1 : Int32))) dy_transfer_50 rfl (fun _ E' k' => ?_) (fun _ E' k' => ?_) ?_
      · refine xw_iconst dy_transfer_65 ki_1 ?_
        refine xw_goto dy_transfer_66 rfl ?_
        exact k'
      · refine xw_iload4 dy_transfer_53 ?_
        refine xw_aload0 dy_transfer_55 ?_
        refine xw_getR dy_transfer_56 fl_y_13 (xl_n hn (by decide)) rfl r_18_5 ?_
        refine xw_bipush dy_transfer_59 kb_21 ?_
        refine xw_iald dy_transfer_61 (xl_n hn (by decide)) rfl vc_21_26 cn_21 ?_
        refine xw_icmp_gt_mi (J := 70) (a := (0 : Int32)) (b := (1 : Int32)) dy_transfer_62 rfl (fun _ E' k' => ?_) (fun _ E' k' => ?_) ?_
        · refine xw_iconst dy_transfer_69 ki_0 ?_
          exact k'
        · refine xw_iconst dy_transfer_65 ki_1 ?_
          refine xw_goto dy_transfer_66 rfl ?_
          exact k'
        exact k'
      exact k'
    refine xw_li (fun v4 e_v4 => ?_)
    refine xw_istore5 dy_transfer_70 (Nat.le_of_ble_eq_true rfl) rfl ?_
    refine xw_aload0 dy_transfer_72 ?_
    refine xw_getR dy_transfer_73 fl_y_29 (xl_n hn (by decide)) rfl r_18_14 ?_
    refine xw_iconst dy_transfer_76 ki_0 ?_
    refine xw_iald dy_transfer_77 (xl_n hn (by decide)) rfl vc_0_2 cn_0 ?_
    refine xw_bipush dy_transfer_78 kb_7 ?_
    refine xw_icmp_eq_mi (J := 125) (a := (if (s1 25 0) < (s1 20 21) then (0 : Int32) else (if (s1 25 0) < v3 then (0 : Int32) else (1 : Int32)))) (b := (if (s1 24 0) = (5 : Int32) then (if (s1 25 0) < (s1 20 21) then (0 : Int32) else (if (s1 25 0) < v3 then (0 : Int32) else (1 : Int32))) else (0 : Int32))) dy_transfer_80 rfl (fun _ E' k' => ?_) (fun _ E' k' => ?_) ?_
    · refine xw_aload0 dy_transfer_93 ?_
      refine xw_getR dy_transfer_94 fl_y_32 (xl_n hn (by decide)) rfl r_18_15 ?_
      refine xw_iconst dy_transfer_97 ki_0 ?_
      refine xw_iald dy_transfer_98 (xl_n hn (by decide)) rfl vc_0_2 cn_0 ?_
      refine xw_aload0 dy_transfer_99 ?_
      refine xw_getR dy_transfer_100 fl_y_13 (xl_n hn (by decide)) rfl r_18_5 ?_
      refine xw_bipush dy_transfer_103 kb_21 ?_
      refine xw_iald dy_transfer_105 (xl_n hn (by decide)) rfl vc_21_26 cn_21 ?_
      refine xw_icmp_lt_mi (J := 125) (a := (0 : Int32)) (b := (if (s1 25 0) < v3 then (0 : Int32) else (1 : Int32))) dy_transfer_106 rfl (fun _ E' k' => ?_) (fun _ E' k' => ?_) ?_
      · refine xw_iconst dy_transfer_124 ki_0 ?_
        exact k'
      · refine xw_aload0 dy_transfer_109 ?_
        refine xw_getR dy_transfer_110 fl_y_32 (xl_n hn (by decide)) rfl r_18_15 ?_
        refine xw_iconst dy_transfer_113 ki_0 ?_
        refine xw_iald dy_transfer_114 (xl_n hn (by decide)) rfl vc_0_2 cn_0 ?_
        refine xw_iload4 dy_transfer_115 ?_
        refine xw_icmp_lt_mi (J := 125) (a := (0 : Int32)) (b := (1 : Int32)) dy_transfer_117 rfl (fun _ E' k' => ?_) (fun _ E' k' => ?_) ?_
        · refine xw_iconst dy_transfer_124 ki_0 ?_
          exact k'
        · refine xw_iconst dy_transfer_120 ki_1 ?_
          refine xw_goto dy_transfer_121 rfl ?_
          exact k'
        exact k'
      exact k'
    · refine xw_aload0 dy_transfer_83 ?_
      refine xw_getR dy_transfer_84 fl_y_29 (xl_n hn (by decide)) rfl r_18_14 ?_
      refine xw_iconst dy_transfer_87 ki_0 ?_
      refine xw_iald dy_transfer_88 (xl_n hn (by decide)) rfl vc_0_2 cn_0 ?_
      refine xw_iconst dy_transfer_89 ki_5 ?_
      refine xw_icmp_ne_mi (J := 125) (a := (if (s1 25 0) < (s1 20 21) then (0 : Int32) else (if (s1 25 0) < v3 then (0 : Int32) else (1 : Int32)))) (b := (0 : Int32)) dy_transfer_90 rfl (fun _ E' k' => ?_) (fun _ E' k' => ?_) ?_
      · refine xw_iconst dy_transfer_124 ki_0 ?_
        exact k'
      · refine xw_aload0 dy_transfer_93 ?_
        refine xw_getR dy_transfer_94 fl_y_32 (xl_n hn (by decide)) rfl r_18_15 ?_
        refine xw_iconst dy_transfer_97 ki_0 ?_
        refine xw_iald dy_transfer_98 (xl_n hn (by decide)) rfl vc_0_2 cn_0 ?_
        refine xw_aload0 dy_transfer_99 ?_
        refine xw_getR dy_transfer_100 fl_y_13 (xl_n hn (by decide)) rfl r_18_5 ?_
        refine xw_bipush dy_transfer_103 kb_21 ?_
        refine xw_iald dy_transfer_105 (xl_n hn (by decide)) rfl vc_21_26 cn_21 ?_
        refine xw_icmp_lt_mi (J := 125) (a := (0 : Int32)) (b := (if (s1 25 0) < v3 then (0 : Int32) else (1 : Int32))) dy_transfer_106 rfl (fun _ E' k' => ?_) (fun _ E' k' => ?_) ?_
        · refine xw_iconst dy_transfer_124 ki_0 ?_
          exact k'
        · refine xw_aload0 dy_transfer_109 ?_
          refine xw_getR dy_transfer_110 fl_y_32 (xl_n hn (by decide)) rfl r_18_15 ?_
          refine xw_iconst dy_transfer_113 ki_0 ?_
          refine xw_iald dy_transfer_114 (xl_n hn (by decide)) rfl vc_0_2 cn_0 ?_
          refine xw_iload4 dy_transfer_115 ?_
          refine xw_icmp_lt_mi (J := 125) (a := (0 : Int32)) (b := (1 : Int32)) dy_transfer_117 rfl (fun _ E' k' => ?_) (fun _ E' k' => ?_) ?_
          · refine xw_iconst dy_transfer_124 ki_0 ?_
            exact k'
          · refine xw_iconst dy_transfer_120 ki_1 ?_
            refine xw_goto dy_transfer_121 rfl ?_
            exact k'
          exact k'
        exact k'
      exact k'
    refine xw_li (fun v5 e_v5 => ?_)
    refine xw_istore6 dy_transfer_125 (Nat.le_of_ble_eq_true rfl) rfl ?_
    refine xw_iload5 dy_transfer_127 ?_
    refine xw_if_ne_mw (J := 169) (a := (if v5 = 0 then (fy_raise (13 : Int32) (fy_codeOf a1 s1) s1) else (if (s1 26 0) = 0 then (fy_raise (11 : Int32) (fy_codeOf a1 s1) s1) else s1))) (b := (if (s1 26 0) = 0 then (fy_raise (11 : Int32) (fy_codeOf a1 s1) s1) else s1)) dy_transfer_129 rfl (fun _ E' k' => ?_) (fun _ E' k' => ?_) ?_
    · refine xw_aload0 dy_transfer_150 ?_
      refine xw_getR dy_transfer_151 fl_y_35 (xl_n hn (by decide)) rfl r_18_16 ?_
      refine xw_iconst dy_transfer_154 ki_0 ?_
      refine xw_zald dy_transfer_155 (xl_n hn (by decide)) rfl vc_0_2 cn_0 ?_
      refine xw_if_ne_mw (J := 169) (a := (fy_raise (11 : Int32) (fy_codeOf a1 s1) s1)) (b := s1) dy_transfer_156 rfl (fun _ E' k' => ?_) (fun _ E' k' => ?_) ?_
      · exact k'
      · refine xw_aload0 dy_transfer_159 ?_
        refine xw_bipush dy_transfer_160 kb_11 ?_
        refine xw_iload1 dy_transfer_162 ?_
        refine xw_cVi dy_transfer_163 (lk_y_transfer_163) ok_y_codeOf (my_codeOf hl hn) ⟨Nat.le_of_ble_eq_true rfl, Nat.le_of_ble_eq_true rfl⟩ ?_
        refine xw_cW dy_transfer_166 (lk_y_transfer_166 (xl_n hn (by decide)) rfl) ok_y_raise (my_raise hl hn) ⟨Nat.le_of_ble_eq_true rfl, Nat.le_of_ble_eq_true rfl⟩ ?_
        exact k'
      exact k'
    · refine xw_iload6 dy_transfer_132 ?_
      refine xw_if_ne_mw (J := 169) (a := (fy_raise (13 : Int32) (fy_codeOf a1 s1) s1)) (b := (if (s1 26 0) = 0 then (fy_raise (11 : Int32) (fy_codeOf a1 s1) s1) else s1)) dy_transfer_134 rfl (fun _ E' k' => ?_) (fun _ E' k' => ?_) ?_
      · refine xw_aload0 dy_transfer_150 ?_
        refine xw_getR dy_transfer_151 fl_y_35 (xl_n hn (by decide)) rfl r_18_16 ?_
        refine xw_iconst dy_transfer_154 ki_0 ?_
        refine xw_zald dy_transfer_155 (xl_n hn (by decide)) rfl vc_0_2 cn_0 ?_
        refine xw_if_ne_mw (J := 169) (a := (fy_raise (11 : Int32) (fy_codeOf a1 s1) s1)) (b := s1) dy_transfer_156 rfl (fun _ E' k' => ?_) (fun _ E' k' => ?_) ?_
        · exact k'
        · refine xw_aload0 dy_transfer_159 ?_
          refine xw_bipush dy_transfer_160 kb_11 ?_
          refine xw_iload1 dy_transfer_162 ?_
          refine xw_cVi dy_transfer_163 (lk_y_transfer_163) ok_y_codeOf (my_codeOf hl hn) ⟨Nat.le_of_ble_eq_true rfl, Nat.le_of_ble_eq_true rfl⟩ ?_
          refine xw_cW dy_transfer_166 (lk_y_transfer_166 (xl_n hn (by decide)) rfl) ok_y_raise (my_raise hl hn) ⟨Nat.le_of_ble_eq_true rfl, Nat.le_of_ble_eq_true rfl⟩ ?_
          exact k'
        exact k'
      · refine xw_aload0 dy_transfer_137 ?_
        refine xw_bipush dy_transfer_138 kb_13 ?_
        refine xw_iload1 dy_transfer_140 ?_
        refine xw_cVi dy_transfer_141 (lk_y_transfer_141) ok_y_codeOf (my_codeOf hl hn) ⟨Nat.le_of_ble_eq_true rfl, Nat.le_of_ble_eq_true rfl⟩ ?_
        refine xw_cW dy_transfer_144 (lk_y_transfer_144 (xl_n hn (by decide)) rfl) ok_y_raise (my_raise hl hn) ⟨Nat.le_of_ble_eq_true rfl, Nat.le_of_ble_eq_true rfl⟩ ?_
        refine xw_goto dy_transfer_147 rfl ?_
        exact k'
      exact k'
    refine xw_lw (fun s6 e_s6 => ?_)
    have hJ_s6 : yx_J s6 := by rw [e_s6]; exact (xj_i (fun _ => (xj_i (fun _ => (jy_raise hJ_s1)) (fun _ => (xj_i (fun _ => (jy_raise hJ_s1)) (fun _ => hJ_s1))))) (fun _ => (xj_i (fun _ => (jy_raise hJ_s1)) (fun _ => hJ_s1))))
    refine xw_aload0 dy_transfer_169 ?_
    refine xw_cVi dy_transfer_170 (lk_y_transfer_170 (xl_n hn (by decide)) rfl) ok_y_isRaised (my_isRaised hl hn) ⟨Nat.le_of_ble_eq_true rfl, Nat.le_of_ble_eq_true rfl⟩ ?_
    refine xw_if_eq' dy_transfer_173 rfl (fun h7 => ?_) (fun h7 => ?_)
    · refine xw_iload5 dy_transfer_177 ?_
      refine xw_if_eq' dy_transfer_179 rfl (fun h8 => ?_) (fun h8 => ?_)
      · refine xw_aload0 dy_transfer_217 ?_
        refine xw_getR dy_transfer_218 fl_y_29 (xl_n hn (by decide)) rfl r_18_14 ?_
        refine xw_iconst dy_transfer_221 ki_0 ?_
        refine xw_iald dy_transfer_222 (xl_n hn (by decide)) rfl vc_0_2 cn_0 ?_
        refine xw_iconst dy_transfer_223 ki_5 ?_
        refine xw_icmp_ne' dy_transfer_224 rfl (fun h9 => ?_) (fun h9 => ?_)
        · refine xw_aload0 dy_transfer_244 ?_
          refine xw_aload0 dy_transfer_245 ?_
          refine xw_getR dy_transfer_246 fl_y_26 (xl_n hn (by decide)) rfl r_18_13 ?_
          refine xw_iconst dy_transfer_249 ki_0 ?_
          refine xw_iald dy_transfer_250 (xl_n hn (by decide)) rfl vc_0_2 cn_0 ?_
          refine xw_aload0 dy_transfer_251 ?_
          refine xw_getR dy_transfer_252 fl_y_23 (xl_n hn (by decide)) rfl r_18_12 ?_
          refine xw_iconst dy_transfer_255 ki_0 ?_
          refine xw_iald dy_transfer_256 (xl_n hn (by decide)) rfl vc_0_2 cn_0 ?_
          refine xw_aload0 dy_transfer_257 ?_
          refine xw_getR dy_transfer_258 fl_y_39 (xl_n hn (by decide)) rfl r_18_17 ?_
          refine xw_iconst dy_transfer_261 ki_0 ?_
          refine xw_iald dy_transfer_262 (xl_n hn (by decide)) rfl vc_0_2 cn_0 ?_
          refine xw_iload3 dy_transfer_263 ?_
          refine xw_if_ne_mi (J := 272) (a := (1 : Int32)) (b := (0 : Int32)) dy_transfer_264 rfl (fun _ E' k' => ?_) (fun _ E' k' => ?_) ?_
          · refine xw_iconst dy_transfer_271 ki_0 ?_
            exact k'
          · refine xw_iconst dy_transfer_267 ki_1 ?_
            refine xw_goto dy_transfer_268 rfl ?_
            exact k'
          refine xw_iconst dy_transfer_272 ki_0 ?_
          refine xw_aload0 dy_transfer_273 ?_
          refine xw_cVi dy_transfer_274 (lk_y_transfer_274 (xl_n hn (by decide)) rfl) ok_y_nextIp (my_nextIp hl hn) ⟨Nat.le_of_ble_eq_true rfl, Nat.le_of_ble_eq_true rfl⟩ ?_
          refine xw_cW dy_transfer_277 (lk_y_transfer_277 (xl_n hn (by decide)) rfl) ok_y_through (my_through hl hn (hJ_s6).2.2 hJ_s6) ⟨Nat.le_of_ble_eq_true rfl, Nat.le_of_ble_eq_true rfl⟩ ?_
          refine xw_lw (fun s10 e_s10 => ?_)
          have hJ_s10 : yx_J s10 := by rw [e_s10]; exact (jy_through (hJ_s6).2.2 hJ_s6)
          exact xw_vret dy_transfer_280 rfl
        · refine xw_aload0 dy_transfer_227 ?_
          refine xw_iload1 dy_transfer_228 ?_
          refine xw_iload3 dy_transfer_229 ?_
          refine xw_if_eq_mi (J := 238) (a := (0 : Int32)) (b := (1 : Int32)) dy_transfer_230 rfl (fun _ E' k' => ?_) (fun _ E' k' => ?_) ?_
          · refine xw_iconst dy_transfer_237 ki_0 ?_
            exact k'
          · refine xw_iconst dy_transfer_233 ki_1 ?_
            refine xw_goto dy_transfer_234 rfl ?_
            exact k'
          refine xw_cW dy_transfer_238 (lk_y_transfer_238 (xl_n hn (by decide)) rfl) ok_y_switchTo (my_switchTo hl hn hJ_s6) ⟨Nat.le_of_ble_eq_true rfl, Nat.le_of_ble_eq_true rfl⟩ ?_
          refine xw_lw (fun s11 e_s11 => ?_)
          have hJ_s11 : yx_J s11 := by rw [e_s11]; exact (jy_switchTo hJ_s6)
          refine xw_goto dy_transfer_241 rfl ?_
          exact xw_vret dy_transfer_280 rfl
      · refine xw_iload3 dy_transfer_182 ?_
        refine xw_if_eq_mw (J := 196) (a := s6) (b := (fy_pushWord (s6 20 0) s6)) dy_transfer_183 rfl (fun _ E' k' => ?_) (fun _ E' k' => ?_) ?_
        · exact k'
        · refine xw_aload0 dy_transfer_186 ?_
          refine xw_aload0 dy_transfer_187 ?_
          refine xw_getR dy_transfer_188 fl_y_13 (xl_n hn (by decide)) rfl r_18_5 ?_
          refine xw_iconst dy_transfer_191 ki_0 ?_
          refine xw_iald dy_transfer_192 (xl_n hn (by decide)) rfl vc_0_26 cn_0 ?_
          refine xw_cW dy_transfer_193 (lk_y_transfer_193 (xl_n hn (by decide)) rfl) ok_y_pushWord (my_pushWord hl hn hJ_s6) ⟨Nat.le_of_ble_eq_true rfl, Nat.le_of_ble_eq_true rfl⟩ ?_
          exact k'
        refine xw_lw (fun s12 e_s12 => ?_)
        have hJ_s12 : yx_J s12 := by rw [e_s12]; exact (xj_i (fun _ => hJ_s6) (fun _ => (jy_pushWord hJ_s6)))
        refine xw_iload3 dy_transfer_196 ?_
        refine xw_if_eq_mw (J := 208) (a := s12) (b := (fy_pushWord (fy_nextIp s12) s12)) dy_transfer_197 rfl (fun _ E' k' => ?_) (fun _ E' k' => ?_) ?_
        · exact k'
        · refine xw_aload0 dy_transfer_200 ?_
          refine xw_aload0 dy_transfer_201 ?_
          refine xw_cVi dy_transfer_202 (lk_y_transfer_202 (xl_n hn (by decide)) rfl) ok_y_nextIp (my_nextIp hl hn) ⟨Nat.le_of_ble_eq_true rfl, Nat.le_of_ble_eq_true rfl⟩ ?_
          refine xw_cW dy_transfer_205 (lk_y_transfer_205 (xl_n hn (by decide)) rfl) ok_y_pushWord (my_pushWord hl hn hJ_s12) ⟨Nat.le_of_ble_eq_true rfl, Nat.le_of_ble_eq_true rfl⟩ ?_
          exact k'
        refine xw_lw (fun s13 e_s13 => ?_)
        have hJ_s13 : yx_J s13 := by rw [e_s13]; exact (xj_i (fun _ => hJ_s12) (fun _ => (jy_pushWord hJ_s12)))
        refine xw_aload0 dy_transfer_208 ?_
        refine xw_iload1 dy_transfer_209 ?_
        refine xw_iload2 dy_transfer_210 ?_
        refine xw_cW dy_transfer_211 (lk_y_transfer_211 (xl_n hn (by decide)) rfl) ok_y_enter (my_enter hl hn) ⟨Nat.le_of_ble_eq_true rfl, Nat.le_of_ble_eq_true rfl⟩ ?_
        refine xw_lw (fun s14 e_s14 => ?_)
        have hJ_s14 : yx_J s14 := by rw [e_s14]; exact (jy_enter hJ_s13)
        refine xw_goto dy_transfer_214 rfl ?_
        exact xw_vret dy_transfer_280 rfl
    · exact xw_vret dy_transfer_176 rfl
  · exact xw_vret dy_transfer_30 rfl
theorem jy_transfer {a1 : Int32} {a2 : Int32} {a3 : Int32} {σ : xs_S} (hJ : yx_J σ) : yx_J (fy_transfer a1 a2 a3 σ) := by
  unfold fy_transfer
  refine xj_wl (fun s1 e_s1 => ?_)
  have hJ_s1 : yx_J s1 := by rw [e_s1]; exact (xj_i (fun _ => (jy_lookUp vc_0_2 hJ)) (fun _ => (jy_raise hJ)))
  refine xj_wf (fun h2 => ?_) (fun h2 => ?_)
  · refine xj_wl (fun v3 e_v3 => ?_)
    refine xj_wl (fun v4 e_v4 => ?_)
    refine xj_wl (fun v5 e_v5 => ?_)
    refine xj_wl (fun s6 e_s6 => ?_)
    have hJ_s6 : yx_J s6 := by rw [e_s6]; exact (xj_i (fun _ => (xj_i (fun _ => (jy_raise hJ_s1)) (fun _ => (xj_i (fun _ => (jy_raise hJ_s1)) (fun _ => hJ_s1))))) (fun _ => (xj_i (fun _ => (jy_raise hJ_s1)) (fun _ => hJ_s1))))
    refine xj_wf (fun h7 => ?_) (fun h7 => ?_)
    · refine xj_wf (fun h8 => ?_) (fun h8 => ?_)
      · refine xj_wf (fun h9 => ?_) (fun h9 => ?_)
        · refine xj_wl (fun s11 e_s11 => ?_)
          have hJ_s11 : yx_J s11 := by rw [e_s11]; exact (jy_switchTo hJ_s6)
          exact hJ_s11
        · refine xj_wl (fun s10 e_s10 => ?_)
          have hJ_s10 : yx_J s10 := by rw [e_s10]; exact (jy_through (hJ_s6).2.2 hJ_s6)
          exact hJ_s10
      · refine xj_wl (fun s12 e_s12 => ?_)
        have hJ_s12 : yx_J s12 := by rw [e_s12]; exact (xj_i (fun _ => hJ_s6) (fun _ => (jy_pushWord hJ_s6)))
        refine xj_wl (fun s13 e_s13 => ?_)
        have hJ_s13 : yx_J s13 := by rw [e_s13]; exact (xj_i (fun _ => hJ_s12) (fun _ => (jy_pushWord hJ_s12)))
        refine xj_wl (fun s14 e_s14 => ?_)
        have hJ_s14 : yx_J s14 := by rw [e_s14]; exact (jy_enter hJ_s13)
        exact hJ_s14
    · exact hJ_s6
  · exact hJ_s1
def fy_outerStack (a1 : Int32) (a2 : Int32) (σ : xs_S) : xs_S := (if (fy_isRaised σ) = 0 then xl_l ((if (fy_isNull a1 σ) = 0 then (fy_lookUp a1 (1 : Int32) σ) else (fy_raise (13 : Int32) (0 : Int32) σ))) (fun s2 => (if (fy_isRaised s2) = 0 then (if (a1 &&& (3 : Int32)) = a2 then (if (s2 24 1) = (4 : Int32) then (if (s2 25 1) = a2 then (if (s2 26 1) = 0 then xl_l ((fy_raise (12 : Int32) (fy_codeOf a1 s2) s2)) (fun s10 => s10) else s2) else xl_l ((fy_raise (13 : Int32) (fy_codeOf a1 s2) s2)) (fun s11 => s11)) else xl_l ((fy_raise (13 : Int32) (fy_codeOf a1 s2) s2)) (fun s7 => s7)) else xl_l ((fy_raise (13 : Int32) (fy_codeOf a1 s2) s2)) (fun s5 => s5)) else s2)) else σ)
set_option maxRecDepth 100000 in
set_option maxHeartbeats 4000000 in
theorem my_outerStack {l : Launch} {N n u : Nat} {a1 : Int32} {a2 : Int32} {σ : xs_S} (hl : l.stackTraces = false) (hn : 29 ≤ n) (hJ : yx_J σ) : xm_m (xk_k N) l ty_outerStack [.ref 18, .int a1, .int a2] (n, u, σ, xr_0) (xe_w n u (fy_outerStack a1 a2 σ)) := by
  refine xm_of hl ok_y_outerStack (Nat.le_of_ble_eq_true rfl) ?_
  show xw_w (xk_k N) l ty_outerStack 0 [some (.ref 18), some (.int a1), some (.int a2)] [] (n, u, σ, xr_0) (xe_w n u (fy_outerStack a1 a2 σ))
  unfold fy_outerStack
  refine xw_aload0 dy_outerStack_0 ?_
  refine xw_cVi dy_outerStack_1 (lk_y_outerStack_1 (xl_n hn (by decide)) rfl) ok_y_isRaised (my_isRaised hl hn) ⟨Nat.le_of_ble_eq_true rfl, Nat.le_of_ble_eq_true rfl⟩ ?_
  refine xw_if_eq' dy_outerStack_4 rfl (fun h1 => ?_) (fun h1 => ?_)
  · refine xw_iload1 dy_outerStack_8 ?_
    refine xw_cVi dy_outerStack_9 (lk_y_outerStack_9) ok_y_isNull (my_isNull hl hn) ⟨Nat.le_of_ble_eq_true rfl, Nat.le_of_ble_eq_true rfl⟩ ?_
    refine xw_if_eq_mw (J := 31) (a := (fy_lookUp a1 (1 : Int32) σ)) (b := (fy_raise (13 : Int32) (0 : Int32) σ)) dy_outerStack_12 rfl (fun _ E' k' => ?_) (fun _ E' k' => ?_) ?_
    · refine xw_aload0 dy_outerStack_25 ?_
      refine xw_iload1 dy_outerStack_26 ?_
      refine xw_iconst dy_outerStack_27 ki_1 ?_
      refine xw_cW dy_outerStack_28 (lk_y_outerStack_28 (xl_n hn (by decide)) rfl) ok_y_lookUp (my_lookUp hl hn vc_1_2 hJ) ⟨Nat.le_of_ble_eq_true rfl, Nat.le_of_ble_eq_true rfl⟩ ?_
      exact k'
    · refine xw_aload0 dy_outerStack_15 ?_
      refine xw_bipush dy_outerStack_16 kb_13 ?_
      refine xw_iconst dy_outerStack_18 ki_0 ?_
      refine xw_cW dy_outerStack_19 (lk_y_outerStack_19 (xl_n hn (by decide)) rfl) ok_y_raise (my_raise hl hn) ⟨Nat.le_of_ble_eq_true rfl, Nat.le_of_ble_eq_true rfl⟩ ?_
      refine xw_goto dy_outerStack_22 rfl ?_
      exact k'
    refine xw_lw (fun s2 e_s2 => ?_)
    have hJ_s2 : yx_J s2 := by rw [e_s2]; exact (xj_i (fun _ => (jy_lookUp vc_1_2 hJ)) (fun _ => (jy_raise hJ)))
    refine xw_aload0 dy_outerStack_31 ?_
    refine xw_cVi dy_outerStack_32 (lk_y_outerStack_32 (xl_n hn (by decide)) rfl) ok_y_isRaised (my_isRaised hl hn) ⟨Nat.le_of_ble_eq_true rfl, Nat.le_of_ble_eq_true rfl⟩ ?_
    refine xw_if_eq' dy_outerStack_35 rfl (fun h3 => ?_) (fun h3 => ?_)
    · refine xw_iload1 dy_outerStack_39 ?_
      refine xw_iconst dy_outerStack_40 ki_3 ?_
      refine xw_iand dy_outerStack_41 ?_
      refine xw_iload2 dy_outerStack_42 ?_
      refine xw_icmp_ne' dy_outerStack_43 rfl (fun h4 => ?_) (fun h4 => ?_)
      · refine xw_aload0 dy_outerStack_66 ?_
        refine xw_bipush dy_outerStack_67 kb_13 ?_
        refine xw_iload1 dy_outerStack_69 ?_
        refine xw_cVi dy_outerStack_70 (lk_y_outerStack_70) ok_y_codeOf (my_codeOf hl hn) ⟨Nat.le_of_ble_eq_true rfl, Nat.le_of_ble_eq_true rfl⟩ ?_
        refine xw_cW dy_outerStack_73 (lk_y_outerStack_73 (xl_n hn (by decide)) rfl) ok_y_raise (my_raise hl hn) ⟨Nat.le_of_ble_eq_true rfl, Nat.le_of_ble_eq_true rfl⟩ ?_
        refine xw_lw (fun s5 e_s5 => ?_)
        have hJ_s5 : yx_J s5 := by rw [e_s5]; exact (jy_raise hJ_s2)
        refine xw_goto dy_outerStack_76 rfl ?_
        exact xw_vret dy_outerStack_98 rfl
      · refine xw_aload0 dy_outerStack_46 ?_
        refine xw_getR dy_outerStack_47 fl_y_29 (xl_n hn (by decide)) rfl r_18_14 ?_
        refine xw_iconst dy_outerStack_50 ki_1 ?_
        refine xw_iald dy_outerStack_51 (xl_n hn (by decide)) rfl vc_1_2 cn_1 ?_
        refine xw_iconst dy_outerStack_52 ki_4 ?_
        refine xw_icmp_ne' dy_outerStack_53 rfl (fun h6 => ?_) (fun h6 => ?_)
        · refine xw_aload0 dy_outerStack_66 ?_
          refine xw_bipush dy_outerStack_67 kb_13 ?_
          refine xw_iload1 dy_outerStack_69 ?_
          refine xw_cVi dy_outerStack_70 (lk_y_outerStack_70) ok_y_codeOf (my_codeOf hl hn) ⟨Nat.le_of_ble_eq_true rfl, Nat.le_of_ble_eq_true rfl⟩ ?_
          refine xw_cW dy_outerStack_73 (lk_y_outerStack_73 (xl_n hn (by decide)) rfl) ok_y_raise (my_raise hl hn) ⟨Nat.le_of_ble_eq_true rfl, Nat.le_of_ble_eq_true rfl⟩ ?_
          refine xw_lw (fun s7 e_s7 => ?_)
          have hJ_s7 : yx_J s7 := by rw [e_s7]; exact (jy_raise hJ_s2)
          refine xw_goto dy_outerStack_76 rfl ?_
          exact xw_vret dy_outerStack_98 rfl
        · refine xw_aload0 dy_outerStack_56 ?_
          refine xw_getR dy_outerStack_57 fl_y_32 (xl_n hn (by decide)) rfl r_18_15 ?_
          refine xw_iconst dy_outerStack_60 ki_1 ?_
          refine xw_iald dy_outerStack_61 (xl_n hn (by decide)) rfl vc_1_2 cn_1 ?_
          refine xw_iload2 dy_outerStack_62 ?_
          refine xw_icmp_eq' dy_outerStack_63 rfl (fun h8 => ?_) (fun h8 => ?_)
          · refine xw_aload0 dy_outerStack_79 ?_
            refine xw_getR dy_outerStack_80 fl_y_35 (xl_n hn (by decide)) rfl r_18_16 ?_
            refine xw_iconst dy_outerStack_83 ki_1 ?_
            refine xw_zald dy_outerStack_84 (xl_n hn (by decide)) rfl vc_1_2 cn_1 ?_
            refine xw_if_ne' dy_outerStack_85 rfl (fun h9 => ?_) (fun h9 => ?_)
            · exact xw_vret dy_outerStack_98 rfl
            · refine xw_aload0 dy_outerStack_88 ?_
              refine xw_bipush dy_outerStack_89 kb_12 ?_
              refine xw_iload1 dy_outerStack_91 ?_
              refine xw_cVi dy_outerStack_92 (lk_y_outerStack_92) ok_y_codeOf (my_codeOf hl hn) ⟨Nat.le_of_ble_eq_true rfl, Nat.le_of_ble_eq_true rfl⟩ ?_
              refine xw_cW dy_outerStack_95 (lk_y_outerStack_95 (xl_n hn (by decide)) rfl) ok_y_raise (my_raise hl hn) ⟨Nat.le_of_ble_eq_true rfl, Nat.le_of_ble_eq_true rfl⟩ ?_
              refine xw_lw (fun s10 e_s10 => ?_)
              have hJ_s10 : yx_J s10 := by rw [e_s10]; exact (jy_raise hJ_s2)
              exact xw_vret dy_outerStack_98 rfl
          · refine xw_aload0 dy_outerStack_66 ?_
            refine xw_bipush dy_outerStack_67 kb_13 ?_
            refine xw_iload1 dy_outerStack_69 ?_
            refine xw_cVi dy_outerStack_70 (lk_y_outerStack_70) ok_y_codeOf (my_codeOf hl hn) ⟨Nat.le_of_ble_eq_true rfl, Nat.le_of_ble_eq_true rfl⟩ ?_
            refine xw_cW dy_outerStack_73 (lk_y_outerStack_73 (xl_n hn (by decide)) rfl) ok_y_raise (my_raise hl hn) ⟨Nat.le_of_ble_eq_true rfl, Nat.le_of_ble_eq_true rfl⟩ ?_
            refine xw_lw (fun s11 e_s11 => ?_)
            have hJ_s11 : yx_J s11 := by rw [e_s11]; exact (jy_raise hJ_s2)
            refine xw_goto dy_outerStack_76 rfl ?_
            exact xw_vret dy_outerStack_98 rfl
    · exact xw_vret dy_outerStack_38 rfl
  · exact xw_vret dy_outerStack_7 rfl
theorem jy_outerStack {a1 : Int32} {a2 : Int32} {σ : xs_S} (hJ : yx_J σ) : yx_J (fy_outerStack a1 a2 σ) := by
  unfold fy_outerStack
  refine xj_wf (fun h1 => ?_) (fun h1 => ?_)
  · refine xj_wl (fun s2 e_s2 => ?_)
    have hJ_s2 : yx_J s2 := by rw [e_s2]; exact (xj_i (fun _ => (jy_lookUp vc_1_2 hJ)) (fun _ => (jy_raise hJ)))
    refine xj_wf (fun h3 => ?_) (fun h3 => ?_)
    · refine xj_wf (fun h4 => ?_) (fun h4 => ?_)
      · refine xj_wf (fun h6 => ?_) (fun h6 => ?_)
        · refine xj_wf (fun h8 => ?_) (fun h8 => ?_)
          · refine xj_wf (fun h9 => ?_) (fun h9 => ?_)
            · refine xj_wl (fun s10 e_s10 => ?_)
              have hJ_s10 : yx_J s10 := by rw [e_s10]; exact (jy_raise hJ_s2)
              exact hJ_s10
            · exact hJ_s2
          · refine xj_wl (fun s11 e_s11 => ?_)
            have hJ_s11 : yx_J s11 := by rw [e_s11]; exact (jy_raise hJ_s2)
            exact hJ_s11
        · refine xj_wl (fun s7 e_s7 => ?_)
          have hJ_s7 : yx_J s7 := by rw [e_s7]; exact (jy_raise hJ_s2)
          exact hJ_s7
      · refine xj_wl (fun s5 e_s5 => ?_)
        have hJ_s5 : yx_J s5 := by rw [e_s5]; exact (jy_raise hJ_s2)
        exact hJ_s5
    · exact hJ_s2
  · exact hJ
def fy_returns (a1 : Int32) (σ : xs_S) : xs_S := xl_l (fy_popWord σ) (fun r1 => xl_l (fy_popWord r1.2) (fun r2 => (if a1 = 0 then xl_l ((r2.2 20 20)) (fun v4 => (if (fy_isRaised r2.2) = 0 then xl_l ((r2.1 &&& (3 : Int32))) (fun v6 => xl_l ((if (fy_isNull r2.1 r2.2) = 0 then (if (r2.2 20 21) ≤ v6 then (fy_lookUp r2.1 (0 : Int32) r2.2) else (fy_raise (13 : Int32) (fy_codeOf r2.1 r2.2) r2.2)) else (fy_raise (13 : Int32) (0 : Int32) r2.2))) (fun s7 => (if (fy_isRaised s7) = 0 then xl_l ((if (s7 24 0) = (1 : Int32) then (if (s7 25 0) = v6 then (1 : Int32) else (if (s7 24 0) = (2 : Int32) then (if v6 < (s7 25 0) then (0 : Int32) else (1 : Int32)) else (0 : Int32))) else (if (s7 24 0) = (2 : Int32) then (if v6 < (s7 25 0) then (0 : Int32) else (1 : Int32)) else (0 : Int32)))) (fun v9 => xl_l ((if v9 = 0 then (fy_raise (13 : Int32) (fy_codeOf r2.1 s7) s7) else (if (s7 26 0) = 0 then (fy_raise (11 : Int32) (fy_codeOf r2.1 s7) s7) else s7))) (fun s10 => xl_l ((if v6 ≤ (s10 20 21) then (0 : Int32) else (1 : Int32))) (fun v11 => (if v11 = 0 then (if (fy_isRaised s10) = 0 then xl_l ((xu_u s10 20 21 v6)) (fun s14 => xl_l ((fy_enter r2.1 r1.1 s14)) (fun s15 => xl_l ((xu_u s15 20 20 (v4 &&& (3 : Int32)))) (fun s16 => (if (fy_isRaised s16) = 0 then s16 else s16)))) else s10) else xl_l (fy_popWord s10) (fun r18 => xl_l (fy_popWord r18.2) (fun r19 => xl_l ((fy_outerStack r19.1 v6 r19.2)) (fun s20 => (if (fy_isRaised s20) = 0 then xl_l ((xu_u s20 20 21 v6)) (fun s22 => xl_l ((fy_enter r2.1 r1.1 s22)) (fun s23 => xl_l ((xu_u s23 20 20 (v4 &&& (3 : Int32)))) (fun s24 => (if (fy_isRaised s24) = 0 then xl_l ((fy_setSegment (1 : Int32) r19.1 (1 : Int32) s24)) (fun s26 => xl_l ((xu_u s26 20 18 r18.1)) (fun s27 => (if (s27 20 5) = 0 then (if (s27 20 14) = (2 : Int32) then s27 else (if v6 ≤ (s27 20 17) then s27 else xl_l ((fy_setNull (2 : Int32) (0 : Int32) s27)) (fun s31 => s31))) else s27))) else s24)))) else s20)))))))) else s7))) else r2.2)) else xl_l (fy_popWord r2.2) (fun r32 => (if (fy_isRaised r32.2) = 0 then xl_l ((r2.1 &&& (3 : Int32))) (fun v34 => xl_l ((if (fy_isNull r2.1 r32.2) = 0 then (if (r32.2 20 21) ≤ v34 then (fy_lookUp r2.1 (0 : Int32) r32.2) else (fy_raise (13 : Int32) (fy_codeOf r2.1 r32.2) r32.2)) else (fy_raise (13 : Int32) (0 : Int32) r32.2))) (fun s35 => (if (fy_isRaised s35) = 0 then xl_l ((if (s35 24 0) = (1 : Int32) then (if (s35 25 0) = v34 then (1 : Int32) else (if (s35 24 0) = (2 : Int32) then (if v34 < (s35 25 0) then (0 : Int32) else (1 : Int32)) else (0 : Int32))) else (if (s35 24 0) = (2 : Int32) then (if v34 < (s35 25 0) then (0 : Int32) else (1 : Int32)) else (0 : Int32)))) (fun v37 => xl_l ((if v37 = 0 then (fy_raise (13 : Int32) (fy_codeOf r2.1 s35) s35) else (if (s35 26 0) = 0 then (fy_raise (11 : Int32) (fy_codeOf r2.1 s35) s35) else s35))) (fun s38 => xl_l ((if v34 ≤ (s38 20 21) then (0 : Int32) else (1 : Int32))) (fun v39 => (if v39 = 0 then (if (fy_isRaised s38) = 0 then xl_l ((xu_u s38 20 21 v34)) (fun s42 => xl_l ((fy_enter r2.1 r1.1 s42)) (fun s43 => xl_l ((xu_u s43 20 20 (r32.1 &&& (3 : Int32)))) (fun s44 => (if (fy_isRaised s44) = 0 then s44 else s44)))) else s38) else xl_l (fy_popWord s38) (fun r46 => xl_l (fy_popWord r46.2) (fun r47 => xl_l ((fy_outerStack r47.1 v34 r47.2)) (fun s48 => (if (fy_isRaised s48) = 0 then xl_l ((xu_u s48 20 21 v34)) (fun s50 => xl_l ((fy_enter r2.1 r1.1 s50)) (fun s51 => xl_l ((xu_u s51 20 20 (r32.1 &&& (3 : Int32)))) (fun s52 => (if (fy_isRaised s52) = 0 then xl_l ((fy_setSegment (1 : Int32) r47.1 (1 : Int32) s52)) (fun s54 => xl_l ((xu_u s54 20 18 r46.1)) (fun s55 => (if (s55 20 5) = 0 then (if (s55 20 14) = (2 : Int32) then s55 else (if v34 ≤ (s55 20 17) then s55 else xl_l ((fy_setNull (2 : Int32) (0 : Int32) s55)) (fun s59 => s59))) else s55))) else s52)))) else s48)))))))) else s35))) else r32.2)))))
set_option maxRecDepth 100000 in
set_option maxHeartbeats 4000000 in
theorem my_returns {l : Launch} {N n u : Nat} {a1 : Int32} {σ : xs_S} (hl : l.stackTraces = false) (hn : 29 ≤ n) (hJ : yx_J σ) : xm_m (xk_k N) l ty_returns [.ref 18, .int a1] (n, u, σ, xr_0) (xe_w n u (fy_returns a1 σ)) := by
  refine xm_of hl ok_y_returns (Nat.le_of_ble_eq_true rfl) ?_
  show xw_w (xk_k N) l ty_returns 0 [some (.ref 18), some (.int a1), none, none, none, none, none, none, none, none] [] (n, u, σ, xr_0) (xe_w n u (fy_returns a1 σ))
  unfold fy_returns
  refine xw_aload0 dy_returns_0 ?_
  refine xw_cPi dy_returns_1 (lk_y_returns_1 (xl_n hn (by decide)) rfl) ok_y_popWord (my_popWord hl hn hJ) ⟨Nat.le_of_ble_eq_true rfl, Nat.le_of_ble_eq_true rfl⟩ ?_
  refine xw_lpi (fun r1 e_r1 => ?_)
  have hJ_r1 : yx_J r1.2 := by rw [e_r1]; exact (jy_popWord hJ)
  refine xw_istore2 dy_returns_4 (Nat.le_of_ble_eq_true rfl) rfl ?_
  refine xw_aload0 dy_returns_5 ?_
  refine xw_cPi dy_returns_6 (lk_y_returns_6 (xl_n hn (by decide)) rfl) ok_y_popWord (my_popWord hl hn hJ_r1) ⟨Nat.le_of_ble_eq_true rfl, Nat.le_of_ble_eq_true rfl⟩ ?_
  refine xw_lpi (fun r2 e_r2 => ?_)
  have hJ_r2 : yx_J r2.2 := by rw [e_r2]; exact (jy_popWord hJ_r1)
  refine xw_istore3 dy_returns_9 (Nat.le_of_ble_eq_true rfl) rfl ?_
  refine xw_iload1 dy_returns_10 ?_
  refine xw_if_eq' dy_returns_11 rfl (fun h3 => ?_) (fun h3 => ?_)
  · refine xw_aload0 dy_returns_21 ?_
    refine xw_getR dy_returns_22 fl_y_13 (xl_n hn (by decide)) rfl r_18_5 ?_
    refine xw_bipush dy_returns_25 kb_20 ?_
    refine xw_iald dy_returns_27 (xl_n hn (by decide)) rfl vc_20_26 cn_20 ?_
    refine xw_li (fun v4 e_v4 => ?_)
    refine xw_istore4 dy_returns_28 (Nat.le_of_ble_eq_true rfl) rfl ?_
    refine xw_aload0 dy_returns_30 ?_
    refine xw_cVi dy_returns_31 (lk_y_returns_31 (xl_n hn (by decide)) rfl) ok_y_isRaised (my_isRaised hl hn) ⟨Nat.le_of_ble_eq_true rfl, Nat.le_of_ble_eq_true rfl⟩ ?_
    refine xw_if_eq' dy_returns_34 rfl (fun h5 => ?_) (fun h5 => ?_)
    · refine xw_iload3 dy_returns_38 ?_
      refine xw_iconst dy_returns_39 ki_3 ?_
      refine xw_iand dy_returns_40 ?_
      refine xw_li (fun v6 e_v6 => ?_)
      refine xw_istore5 dy_returns_41 (Nat.le_of_ble_eq_true rfl) rfl ?_
      refine xw_iload3 dy_returns_43 ?_
      refine xw_cVi dy_returns_44 (lk_y_returns_44) ok_y_isNull (my_isNull hl hn) ⟨Nat.le_of_ble_eq_true rfl, Nat.le_of_ble_eq_true rfl⟩ ?_
      refine xw_if_eq_mw (J := 91) (a := (if (r2.2 20 21) ≤ v6 then (fy_lookUp r2.1 (0 : Int32) r2.2) else (fy_raise (13 : Int32) (fy_codeOf r2.1 r2.2) r2.2))) (b := (fy_raise (13 : Int32) (0 : Int32) r2.2)) dy_returns_47 rfl (fun _ E' k' => ?_) (fun _ E' k' => ?_) ?_
      · refine xw_iload5 dy_returns_60 ?_
        refine xw_aload0 dy_returns_62 ?_
        refine xw_getR dy_returns_63 fl_y_13 (xl_n hn (by decide)) rfl r_18_5 ?_
        refine xw_bipush dy_returns_66 kb_21 ?_
        refine xw_iald dy_returns_68 (xl_n hn (by decide)) rfl vc_21_26 cn_21 ?_
        refine xw_icmp_ge_mw (J := 91) (a := (fy_lookUp r2.1 (0 : Int32) r2.2)) (b := (fy_raise (13 : Int32) (fy_codeOf r2.1 r2.2) r2.2)) dy_returns_69 rfl (fun _ E' k' => ?_) (fun _ E' k' => ?_) ?_
        · refine xw_aload0 dy_returns_85 ?_
          refine xw_iload3 dy_returns_86 ?_
          refine xw_iconst dy_returns_87 ki_0 ?_
          refine xw_cW dy_returns_88 (lk_y_returns_88 (xl_n hn (by decide)) rfl) ok_y_lookUp (my_lookUp hl hn vc_0_2 hJ_r2) ⟨Nat.le_of_ble_eq_true rfl, Nat.le_of_ble_eq_true rfl⟩ ?_
          exact k'
        · refine xw_aload0 dy_returns_72 ?_
          refine xw_bipush dy_returns_73 kb_13 ?_
          refine xw_iload3 dy_returns_75 ?_
          refine xw_cVi dy_returns_76 (lk_y_returns_76) ok_y_codeOf (my_codeOf hl hn) ⟨Nat.le_of_ble_eq_true rfl, Nat.le_of_ble_eq_true rfl⟩ ?_
          refine xw_cW dy_returns_79 (lk_y_returns_79 (xl_n hn (by decide)) rfl) ok_y_raise (my_raise hl hn) ⟨Nat.le_of_ble_eq_true rfl, Nat.le_of_ble_eq_true rfl⟩ ?_
          refine xw_goto dy_returns_82 rfl ?_
          exact k'
        exact k'
      · refine xw_aload0 dy_returns_50 ?_
        refine xw_bipush dy_returns_51 kb_13 ?_
        refine xw_iconst dy_returns_53 ki_0 ?_
        refine xw_cW dy_returns_54 (lk_y_returns_54 (xl_n hn (by decide)) rfl) ok_y_raise (my_raise hl hn) ⟨Nat.le_of_ble_eq_true rfl, Nat.le_of_ble_eq_true rfl⟩ ?_
        refine xw_goto dy_returns_57 rfl ?_
        exact k'
      refine xw_lw (fun s7 e_s7 => ?_)
      have hJ_s7 : yx_J s7 := by rw [e_s7]; exact (xj_i (fun _ => (xj_i (fun _ => (jy_lookUp vc_0_2 hJ_r2)) (fun _ => (jy_raise hJ_r2)))) (fun _ => (jy_raise hJ_r2)))
      refine xw_aload0 dy_returns_91 ?_
      refine xw_cVi dy_returns_92 (lk_y_returns_92 (xl_n hn (by decide)) rfl) ok_y_isRaised (my_isRaised hl hn) ⟨Nat.le_of_ble_eq_true rfl, Nat.le_of_ble_eq_true rfl⟩ ?_
      refine xw_if_eq' dy_returns_95 rfl (fun h8 => ?_) (fun h8 => ?_)
      · refine xw_aload0 dy_returns_99 ?_
        refine xw_getR dy_returns_100 fl_y_29 (xl_n hn (by decide)) rfl r_18_14 ?_
        refine xw_iconst dy_returns_103 ki_0 ?_
        refine xw_iald dy_returns_104 (xl_n hn (by decide)) rfl vc_0_2 cn_0 ?_
        refine xw_iconst dy_returns_105 ki_1 ?_
        refine xw_icmp_ne_mi (J := 146) (a := (if (s7 25 0) = v6 then (1 : Int32) else (if (s7 24 0) = (2 : Int32) then (if v6 < (s7 25 0) then (0 : Int32) else (1 : Int32)) else (0 : Int32)))) (b := (if (s7 24 0) = (2 : Int32) then (if v6 < (s7 25 0) then (0 : Int32) else (1 : Int32)) else (0 : Int32))) dy_returns_106 rfl (fun _ E' k' => ?_) (fun _ E' k' => ?_) ?_
        · refine xw_aload0 dy_returns_120 ?_
          refine xw_getR dy_returns_121 fl_y_29 (xl_n hn (by decide)) rfl r_18_14 ?_
          refine xw_iconst dy_returns_124 ki_0 ?_
          refine xw_iald dy_returns_125 (xl_n hn (by decide)) rfl vc_0_2 cn_0 ?_
          refine xw_iconst dy_returns_126 ki_2 ?_
          refine xw_icmp_ne_mi (J := 146) (a := (if v6 < (s7 25 0) then (0 : Int32) else (1 : Int32))) (b := (0 : Int32)) dy_returns_127 rfl (fun _ E' k' => ?_) (fun _ E' k' => ?_) ?_
          · refine xw_iconst dy_returns_145 ki_0 ?_
            exact k'
          · refine xw_aload0 dy_returns_130 ?_
            refine xw_getR dy_returns_131 fl_y_32 (xl_n hn (by decide)) rfl r_18_15 ?_
            refine xw_iconst dy_returns_134 ki_0 ?_
            refine xw_iald dy_returns_135 (xl_n hn (by decide)) rfl vc_0_2 cn_0 ?_
            refine xw_iload5 dy_returns_136 ?_
            refine xw_icmp_gt_mi (J := 146) (a := (0 : Int32)) (b := (1 : Int32)) dy_returns_138 rfl (fun _ E' k' => ?_) (fun _ E' k' => ?_) ?_
            · refine xw_iconst dy_returns_145 ki_0 ?_
              exact k'
            · refine xw_iconst dy_returns_141 ki_1 ?_
              refine xw_goto dy_returns_142 rfl ?_
              exact k'
            exact k'
          exact k'
        · refine xw_aload0 dy_returns_109 ?_
          refine xw_getR dy_returns_110 fl_y_32 (xl_n hn (by decide)) rfl r_18_15 ?_
          refine xw_iconst dy_returns_113 ki_0 ?_
          refine xw_iald dy_returns_114 (xl_n hn (by decide)) rfl vc_0_2 cn_0 ?_
          refine xw_iload5 dy_returns_115 ?_
          refine xw_icmp_eq_mi (J := 146) (a := (1 : Int32)) (b := (if (s7 24 0) = (2 : Int32) then (if v6 < (s7 25 0) then (0 : Int32) else (1 : Int32)) else (0 : Int32))) dy_returns_117 rfl (fun _ E' k' => ?_) (fun _ E' k' => ?_) ?_
          · refine xw_iconst dy_returns_141 ki_1 ?_
            refine xw_goto dy_returns_142 rfl ?_
            exact k'
          · refine xw_aload0 dy_returns_120 ?_
            refine xw_getR dy_returns_121 fl_y_29 (xl_n hn (by decide)) rfl r_18_14 ?_
            refine xw_iconst dy_returns_124 ki_0 ?_
            refine xw_iald dy_returns_125 (xl_n hn (by decide)) rfl vc_0_2 cn_0 ?_
            refine xw_iconst dy_returns_126 ki_2 ?_
            refine xw_icmp_ne_mi (J := 146) (a := (if v6 < (s7 25 0) then (0 : Int32) else (1 : Int32))) (b := (0 : Int32)) dy_returns_127 rfl (fun _ E' k' => ?_) (fun _ E' k' => ?_) ?_
            · refine xw_iconst dy_returns_145 ki_0 ?_
              exact k'
            · refine xw_aload0 dy_returns_130 ?_
              refine xw_getR dy_returns_131 fl_y_32 (xl_n hn (by decide)) rfl r_18_15 ?_
              refine xw_iconst dy_returns_134 ki_0 ?_
              refine xw_iald dy_returns_135 (xl_n hn (by decide)) rfl vc_0_2 cn_0 ?_
              refine xw_iload5 dy_returns_136 ?_
              refine xw_icmp_gt_mi (J := 146) (a := (0 : Int32)) (b := (1 : Int32)) dy_returns_138 rfl (fun _ E' k' => ?_) (fun _ E' k' => ?_) ?_
              · refine xw_iconst dy_returns_145 ki_0 ?_
                exact k'
              · refine xw_iconst dy_returns_141 ki_1 ?_
                refine xw_goto dy_returns_142 rfl ?_
                exact k'
              exact k'
            exact k'
          exact k'
        refine xw_li (fun v9 e_v9 => ?_)
        refine xw_istore6 dy_returns_146 (Nat.le_of_ble_eq_true rfl) rfl ?_
        refine xw_iload6 dy_returns_148 ?_
        refine xw_if_ne_mw (J := 185) (a := (fy_raise (13 : Int32) (fy_codeOf r2.1 s7) s7)) (b := (if (s7 26 0) = 0 then (fy_raise (11 : Int32) (fy_codeOf r2.1 s7) s7) else s7)) dy_returns_150 rfl (fun _ E' k' => ?_) (fun _ E' k' => ?_) ?_
        · refine xw_aload0 dy_returns_166 ?_
          refine xw_getR dy_returns_167 fl_y_35 (xl_n hn (by decide)) rfl r_18_16 ?_
          refine xw_iconst dy_returns_170 ki_0 ?_
          refine xw_zald dy_returns_171 (xl_n hn (by decide)) rfl vc_0_2 cn_0 ?_
          refine xw_if_ne_mw (J := 185) (a := (fy_raise (11 : Int32) (fy_codeOf r2.1 s7) s7)) (b := s7) dy_returns_172 rfl (fun _ E' k' => ?_) (fun _ E' k' => ?_) ?_
          · exact k'
          · refine xw_aload0 dy_returns_175 ?_
            refine xw_bipush dy_returns_176 kb_11 ?_
            refine xw_iload3 dy_returns_178 ?_
            refine xw_cVi dy_returns_179 (lk_y_returns_179) ok_y_codeOf (my_codeOf hl hn) ⟨Nat.le_of_ble_eq_true rfl, Nat.le_of_ble_eq_true rfl⟩ ?_
            refine xw_cW dy_returns_182 (lk_y_returns_182 (xl_n hn (by decide)) rfl) ok_y_raise (my_raise hl hn) ⟨Nat.le_of_ble_eq_true rfl, Nat.le_of_ble_eq_true rfl⟩ ?_
            exact k'
          exact k'
        · refine xw_aload0 dy_returns_153 ?_
          refine xw_bipush dy_returns_154 kb_13 ?_
          refine xw_iload3 dy_returns_156 ?_
          refine xw_cVi dy_returns_157 (lk_y_returns_157) ok_y_codeOf (my_codeOf hl hn) ⟨Nat.le_of_ble_eq_true rfl, Nat.le_of_ble_eq_true rfl⟩ ?_
          refine xw_cW dy_returns_160 (lk_y_returns_160 (xl_n hn (by decide)) rfl) ok_y_raise (my_raise hl hn) ⟨Nat.le_of_ble_eq_true rfl, Nat.le_of_ble_eq_true rfl⟩ ?_
          refine xw_goto dy_returns_163 rfl ?_
          exact k'
        refine xw_lw (fun s10 e_s10 => ?_)
        have hJ_s10 : yx_J s10 := by rw [e_s10]; exact (xj_i (fun _ => (jy_raise hJ_s7)) (fun _ => (xj_i (fun _ => (jy_raise hJ_s7)) (fun _ => hJ_s7))))
        refine xw_iload5 dy_returns_185 ?_
        refine xw_aload0 dy_returns_187 ?_
        refine xw_getR dy_returns_188 fl_y_13 (xl_n hn (by decide)) rfl r_18_5 ?_
        refine xw_bipush dy_returns_191 kb_21 ?_
        refine xw_iald dy_returns_193 (xl_n hn (by decide)) rfl vc_21_26 cn_21 ?_
        refine xw_icmp_le_mi (J := 202) (a := (0 : Int32)) (b := (1 : Int32)) dy_returns_194 rfl (fun _ E' k' => ?_) (fun _ E' k' => ?_) ?_
        · refine xw_iconst dy_returns_201 ki_0 ?_
          exact k'
        · refine xw_iconst dy_returns_197 ki_1 ?_
          refine xw_goto dy_returns_198 rfl ?_
          exact k'
        refine xw_li (fun v11 e_v11 => ?_)
        refine xw_istore7 dy_returns_202 (Nat.le_of_ble_eq_true rfl) rfl ?_
        refine xw_iconst dy_returns_204 ki_0 ?_
        refine xw_istore8 dy_returns_205 (Nat.le_of_ble_eq_true rfl) rfl ?_
        refine xw_iconst dy_returns_207 ki_0 ?_
        refine xw_istore9 dy_returns_208 (Nat.le_of_ble_eq_true rfl) rfl ?_
        refine xw_iload7 dy_returns_210 ?_
        refine xw_if_eq' dy_returns_212 rfl (fun h12 => ?_) (fun h12 => ?_)
        · refine xw_aload0 dy_returns_235 ?_
          refine xw_cVi dy_returns_236 (lk_y_returns_236 (xl_n hn (by decide)) rfl) ok_y_isRaised (my_isRaised hl hn) ⟨Nat.le_of_ble_eq_true rfl, Nat.le_of_ble_eq_true rfl⟩ ?_
          refine xw_if_eq' dy_returns_239 rfl (fun h13 => ?_) (fun h13 => ?_)
          · refine xw_aload0 dy_returns_243 ?_
            refine xw_getR dy_returns_244 fl_y_13 (xl_n hn (by decide)) rfl r_18_5 ?_
            refine xw_bipush dy_returns_247 kb_21 ?_
            refine xw_iload5 dy_returns_249 ?_
            refine xw_iast dy_returns_251 (by decide) (xl_n hn (by decide)) rfl vc_21_26 cn_21 ?_
            refine xw_lw (fun s14 e_s14 => ?_)
            have hJ_s14 : yx_J s14 := by rw [e_s14]; exact (yx_u hJ_s10 (by decide))
            refine xw_aload0 dy_returns_252 ?_
            refine xw_iload3 dy_returns_253 ?_
            refine xw_iload2 dy_returns_254 ?_
            refine xw_cW dy_returns_255 (lk_y_returns_255 (xl_n hn (by decide)) rfl) ok_y_enter (my_enter hl hn) ⟨Nat.le_of_ble_eq_true rfl, Nat.le_of_ble_eq_true rfl⟩ ?_
            refine xw_lw (fun s15 e_s15 => ?_)
            have hJ_s15 : yx_J s15 := by rw [e_s15]; exact (jy_enter hJ_s14)
            refine xw_aload0 dy_returns_258 ?_
            refine xw_getR dy_returns_259 fl_y_13 (xl_n hn (by decide)) rfl r_18_5 ?_
            refine xw_bipush dy_returns_262 kb_20 ?_
            refine xw_iload4 dy_returns_264 ?_
            refine xw_iconst dy_returns_266 ki_3 ?_
            refine xw_iand dy_returns_267 ?_
            refine xw_iast dy_returns_268 (by decide) (xl_n hn (by decide)) rfl vc_20_26 cn_20 ?_
            refine xw_lw (fun s16 e_s16 => ?_)
            have hJ_s16 : yx_J s16 := by rw [e_s16]; exact (yx_u hJ_s15 (by decide))
            refine xw_aload0 dy_returns_269 ?_
            refine xw_cVi dy_returns_270 (lk_y_returns_270 (xl_n hn (by decide)) rfl) ok_y_isRaised (my_isRaised hl hn) ⟨Nat.le_of_ble_eq_true rfl, Nat.le_of_ble_eq_true rfl⟩ ?_
            refine xw_if_ne' dy_returns_273 rfl (fun h17 => ?_) (fun h17 => ?_)
            · exact xw_vret dy_returns_281 rfl
            · refine xw_iload7 dy_returns_276 ?_
              refine xw_if_ne_f dy_returns_278 rfl h12 ?_
              exact xw_vret dy_returns_281 rfl
          · exact xw_vret dy_returns_242 rfl
        · refine xw_aload0 dy_returns_215 ?_
          refine xw_cPi dy_returns_216 (lk_y_returns_216 (xl_n hn (by decide)) rfl) ok_y_popWord (my_popWord hl hn hJ_s10) ⟨Nat.le_of_ble_eq_true rfl, Nat.le_of_ble_eq_true rfl⟩ ?_
          refine xw_lpi (fun r18 e_r18 => ?_)
          have hJ_r18 : yx_J r18.2 := by rw [e_r18]; exact (jy_popWord hJ_s10)
          refine xw_istore8 dy_returns_219 (Nat.le_of_ble_eq_true rfl) rfl ?_
          refine xw_aload0 dy_returns_221 ?_
          refine xw_cPi dy_returns_222 (lk_y_returns_222 (xl_n hn (by decide)) rfl) ok_y_popWord (my_popWord hl hn hJ_r18) ⟨Nat.le_of_ble_eq_true rfl, Nat.le_of_ble_eq_true rfl⟩ ?_
          refine xw_lpi (fun r19 e_r19 => ?_)
          have hJ_r19 : yx_J r19.2 := by rw [e_r19]; exact (jy_popWord hJ_r18)
          refine xw_istore9 dy_returns_225 (Nat.le_of_ble_eq_true rfl) rfl ?_
          refine xw_aload0 dy_returns_227 ?_
          refine xw_iload9 dy_returns_228 ?_
          refine xw_iload5 dy_returns_230 ?_
          refine xw_cW dy_returns_232 (lk_y_returns_232 (xl_n hn (by decide)) rfl) ok_y_outerStack (my_outerStack hl hn hJ_r19) ⟨Nat.le_of_ble_eq_true rfl, Nat.le_of_ble_eq_true rfl⟩ ?_
          refine xw_lw (fun s20 e_s20 => ?_)
          have hJ_s20 : yx_J s20 := by rw [e_s20]; exact (jy_outerStack hJ_r19)
          refine xw_aload0 dy_returns_235 ?_
          refine xw_cVi dy_returns_236 (lk_y_returns_236 (xl_n hn (by decide)) rfl) ok_y_isRaised (my_isRaised hl hn) ⟨Nat.le_of_ble_eq_true rfl, Nat.le_of_ble_eq_true rfl⟩ ?_
          refine xw_if_eq' dy_returns_239 rfl (fun h21 => ?_) (fun h21 => ?_)
          · refine xw_aload0 dy_returns_243 ?_
            refine xw_getR dy_returns_244 fl_y_13 (xl_n hn (by decide)) rfl r_18_5 ?_
            refine xw_bipush dy_returns_247 kb_21 ?_
            refine xw_iload5 dy_returns_249 ?_
            refine xw_iast dy_returns_251 (by decide) (xl_n hn (by decide)) rfl vc_21_26 cn_21 ?_
            refine xw_lw (fun s22 e_s22 => ?_)
            have hJ_s22 : yx_J s22 := by rw [e_s22]; exact (yx_u hJ_s20 (by decide))
            refine xw_aload0 dy_returns_252 ?_
            refine xw_iload3 dy_returns_253 ?_
            refine xw_iload2 dy_returns_254 ?_
            refine xw_cW dy_returns_255 (lk_y_returns_255 (xl_n hn (by decide)) rfl) ok_y_enter (my_enter hl hn) ⟨Nat.le_of_ble_eq_true rfl, Nat.le_of_ble_eq_true rfl⟩ ?_
            refine xw_lw (fun s23 e_s23 => ?_)
            have hJ_s23 : yx_J s23 := by rw [e_s23]; exact (jy_enter hJ_s22)
            refine xw_aload0 dy_returns_258 ?_
            refine xw_getR dy_returns_259 fl_y_13 (xl_n hn (by decide)) rfl r_18_5 ?_
            refine xw_bipush dy_returns_262 kb_20 ?_
            refine xw_iload4 dy_returns_264 ?_
            refine xw_iconst dy_returns_266 ki_3 ?_
            refine xw_iand dy_returns_267 ?_
            refine xw_iast dy_returns_268 (by decide) (xl_n hn (by decide)) rfl vc_20_26 cn_20 ?_
            refine xw_lw (fun s24 e_s24 => ?_)
            have hJ_s24 : yx_J s24 := by rw [e_s24]; exact (yx_u hJ_s23 (by decide))
            refine xw_aload0 dy_returns_269 ?_
            refine xw_cVi dy_returns_270 (lk_y_returns_270 (xl_n hn (by decide)) rfl) ok_y_isRaised (my_isRaised hl hn) ⟨Nat.le_of_ble_eq_true rfl, Nat.le_of_ble_eq_true rfl⟩ ?_
            refine xw_if_ne' dy_returns_273 rfl (fun h25 => ?_) (fun h25 => ?_)
            · exact xw_vret dy_returns_281 rfl
            · refine xw_iload7 dy_returns_276 ?_
              refine xw_if_ne_t dy_returns_278 rfl h12 ?_
              refine xw_aload0 dy_returns_282 ?_
              refine xw_iconst dy_returns_283 ki_1 ?_
              refine xw_iload9 dy_returns_284 ?_
              refine xw_iconst dy_returns_286 ki_1 ?_
              refine xw_cW dy_returns_287 (lk_y_returns_287 (xl_n hn (by decide)) rfl) ok_y_setSegment (my_setSegment hl hn vc_1_3 vc_1_2) ⟨Nat.le_of_ble_eq_true rfl, Nat.le_of_ble_eq_true rfl⟩ ?_
              refine xw_lw (fun s26 e_s26 => ?_)
              have hJ_s26 : yx_J s26 := by rw [e_s26]; exact (jy_setSegment vc_1_3 vc_1_2 hJ_s24)
              refine xw_aload0 dy_returns_290 ?_
              refine xw_getR dy_returns_291 fl_y_13 (xl_n hn (by decide)) rfl r_18_5 ?_
              refine xw_bipush dy_returns_294 kb_18 ?_
              refine xw_iload8 dy_returns_296 ?_
              refine xw_iast dy_returns_298 (by decide) (xl_n hn (by decide)) rfl vc_18_26 cn_18 ?_
              refine xw_lw (fun s27 e_s27 => ?_)
              have hJ_s27 : yx_J s27 := by rw [e_s27]; exact (yx_u hJ_s26 (by decide))
              refine xw_aload0 dy_returns_299 ?_
              refine xw_getR dy_returns_300 fl_y_13 (xl_n hn (by decide)) rfl r_18_5 ?_
              refine xw_iconst dy_returns_303 ki_5 ?_
              refine xw_iald dy_returns_304 (xl_n hn (by decide)) rfl vc_5_26 cn_5 ?_
              refine xw_if_ne' dy_returns_305 rfl (fun h28 => ?_) (fun h28 => ?_)
              · exact xw_vret dy_returns_337 rfl
              · refine xw_aload0 dy_returns_308 ?_
                refine xw_getR dy_returns_309 fl_y_13 (xl_n hn (by decide)) rfl r_18_5 ?_
                refine xw_bipush dy_returns_312 kb_14 ?_
                refine xw_iald dy_returns_314 (xl_n hn (by decide)) rfl vc_14_26 cn_14 ?_
                refine xw_iconst dy_returns_315 ki_2 ?_
                refine xw_icmp_eq' dy_returns_316 rfl (fun h29 => ?_) (fun h29 => ?_)
                · exact xw_vret dy_returns_337 rfl
                · refine xw_aload0 dy_returns_319 ?_
                  refine xw_getR dy_returns_320 fl_y_13 (xl_n hn (by decide)) rfl r_18_5 ?_
                  refine xw_bipush dy_returns_323 kb_17 ?_
                  refine xw_iald dy_returns_325 (xl_n hn (by decide)) rfl vc_17_26 cn_17 ?_
                  refine xw_iload5 dy_returns_326 ?_
                  refine xw_icmp_ge' dy_returns_328 rfl (fun h30 => ?_) (fun h30 => ?_)
                  · exact xw_vret dy_returns_337 rfl
                  · refine xw_aload0 dy_returns_331 ?_
                    refine xw_iconst dy_returns_332 ki_2 ?_
                    refine xw_iconst dy_returns_333 ki_0 ?_
                    refine xw_cW dy_returns_334 (lk_y_returns_334 (xl_n hn (by decide)) rfl) ok_y_setNull (my_setNull hl hn vc_2_3) ⟨Nat.le_of_ble_eq_true rfl, Nat.le_of_ble_eq_true rfl⟩ ?_
                    refine xw_lw (fun s31 e_s31 => ?_)
                    have hJ_s31 : yx_J s31 := by rw [e_s31]; exact (jy_setNull vc_2_3 hJ_s27)
                    exact xw_vret dy_returns_337 rfl
          · exact xw_vret dy_returns_242 rfl
      · exact xw_vret dy_returns_98 rfl
    · exact xw_vret dy_returns_37 rfl
  · refine xw_aload0 dy_returns_14 ?_
    refine xw_cPi dy_returns_15 (lk_y_returns_15 (xl_n hn (by decide)) rfl) ok_y_popWord (my_popWord hl hn hJ_r2) ⟨Nat.le_of_ble_eq_true rfl, Nat.le_of_ble_eq_true rfl⟩ ?_
    refine xw_lpi (fun r32 e_r32 => ?_)
    have hJ_r32 : yx_J r32.2 := by rw [e_r32]; exact (jy_popWord hJ_r2)
    refine xw_goto dy_returns_18 rfl ?_
    refine xw_istore4 dy_returns_28 (Nat.le_of_ble_eq_true rfl) rfl ?_
    refine xw_aload0 dy_returns_30 ?_
    refine xw_cVi dy_returns_31 (lk_y_returns_31 (xl_n hn (by decide)) rfl) ok_y_isRaised (my_isRaised hl hn) ⟨Nat.le_of_ble_eq_true rfl, Nat.le_of_ble_eq_true rfl⟩ ?_
    refine xw_if_eq' dy_returns_34 rfl (fun h33 => ?_) (fun h33 => ?_)
    · refine xw_iload3 dy_returns_38 ?_
      refine xw_iconst dy_returns_39 ki_3 ?_
      refine xw_iand dy_returns_40 ?_
      refine xw_li (fun v34 e_v34 => ?_)
      refine xw_istore5 dy_returns_41 (Nat.le_of_ble_eq_true rfl) rfl ?_
      refine xw_iload3 dy_returns_43 ?_
      refine xw_cVi dy_returns_44 (lk_y_returns_44) ok_y_isNull (my_isNull hl hn) ⟨Nat.le_of_ble_eq_true rfl, Nat.le_of_ble_eq_true rfl⟩ ?_
      refine xw_if_eq_mw (J := 91) (a := (if (r32.2 20 21) ≤ v34 then (fy_lookUp r2.1 (0 : Int32) r32.2) else (fy_raise (13 : Int32) (fy_codeOf r2.1 r32.2) r32.2))) (b := (fy_raise (13 : Int32) (0 : Int32) r32.2)) dy_returns_47 rfl (fun _ E' k' => ?_) (fun _ E' k' => ?_) ?_
      · refine xw_iload5 dy_returns_60 ?_
        refine xw_aload0 dy_returns_62 ?_
        refine xw_getR dy_returns_63 fl_y_13 (xl_n hn (by decide)) rfl r_18_5 ?_
        refine xw_bipush dy_returns_66 kb_21 ?_
        refine xw_iald dy_returns_68 (xl_n hn (by decide)) rfl vc_21_26 cn_21 ?_
        refine xw_icmp_ge_mw (J := 91) (a := (fy_lookUp r2.1 (0 : Int32) r32.2)) (b := (fy_raise (13 : Int32) (fy_codeOf r2.1 r32.2) r32.2)) dy_returns_69 rfl (fun _ E' k' => ?_) (fun _ E' k' => ?_) ?_
        · refine xw_aload0 dy_returns_85 ?_
          refine xw_iload3 dy_returns_86 ?_
          refine xw_iconst dy_returns_87 ki_0 ?_
          refine xw_cW dy_returns_88 (lk_y_returns_88 (xl_n hn (by decide)) rfl) ok_y_lookUp (my_lookUp hl hn vc_0_2 hJ_r32) ⟨Nat.le_of_ble_eq_true rfl, Nat.le_of_ble_eq_true rfl⟩ ?_
          exact k'
        · refine xw_aload0 dy_returns_72 ?_
          refine xw_bipush dy_returns_73 kb_13 ?_
          refine xw_iload3 dy_returns_75 ?_
          refine xw_cVi dy_returns_76 (lk_y_returns_76) ok_y_codeOf (my_codeOf hl hn) ⟨Nat.le_of_ble_eq_true rfl, Nat.le_of_ble_eq_true rfl⟩ ?_
          refine xw_cW dy_returns_79 (lk_y_returns_79 (xl_n hn (by decide)) rfl) ok_y_raise (my_raise hl hn) ⟨Nat.le_of_ble_eq_true rfl, Nat.le_of_ble_eq_true rfl⟩ ?_
          refine xw_goto dy_returns_82 rfl ?_
          exact k'
        exact k'
      · refine xw_aload0 dy_returns_50 ?_
        refine xw_bipush dy_returns_51 kb_13 ?_
        refine xw_iconst dy_returns_53 ki_0 ?_
        refine xw_cW dy_returns_54 (lk_y_returns_54 (xl_n hn (by decide)) rfl) ok_y_raise (my_raise hl hn) ⟨Nat.le_of_ble_eq_true rfl, Nat.le_of_ble_eq_true rfl⟩ ?_
        refine xw_goto dy_returns_57 rfl ?_
        exact k'
      refine xw_lw (fun s35 e_s35 => ?_)
      have hJ_s35 : yx_J s35 := by rw [e_s35]; exact (xj_i (fun _ => (xj_i (fun _ => (jy_lookUp vc_0_2 hJ_r32)) (fun _ => (jy_raise hJ_r32)))) (fun _ => (jy_raise hJ_r32)))
      refine xw_aload0 dy_returns_91 ?_
      refine xw_cVi dy_returns_92 (lk_y_returns_92 (xl_n hn (by decide)) rfl) ok_y_isRaised (my_isRaised hl hn) ⟨Nat.le_of_ble_eq_true rfl, Nat.le_of_ble_eq_true rfl⟩ ?_
      refine xw_if_eq' dy_returns_95 rfl (fun h36 => ?_) (fun h36 => ?_)
      · refine xw_aload0 dy_returns_99 ?_
        refine xw_getR dy_returns_100 fl_y_29 (xl_n hn (by decide)) rfl r_18_14 ?_
        refine xw_iconst dy_returns_103 ki_0 ?_
        refine xw_iald dy_returns_104 (xl_n hn (by decide)) rfl vc_0_2 cn_0 ?_
        refine xw_iconst dy_returns_105 ki_1 ?_
        refine xw_icmp_ne_mi (J := 146) (a := (if (s35 25 0) = v34 then (1 : Int32) else (if (s35 24 0) = (2 : Int32) then (if v34 < (s35 25 0) then (0 : Int32) else (1 : Int32)) else (0 : Int32)))) (b := (if (s35 24 0) = (2 : Int32) then (if v34 < (s35 25 0) then (0 : Int32) else (1 : Int32)) else (0 : Int32))) dy_returns_106 rfl (fun _ E' k' => ?_) (fun _ E' k' => ?_) ?_
        · refine xw_aload0 dy_returns_120 ?_
          refine xw_getR dy_returns_121 fl_y_29 (xl_n hn (by decide)) rfl r_18_14 ?_
          refine xw_iconst dy_returns_124 ki_0 ?_
          refine xw_iald dy_returns_125 (xl_n hn (by decide)) rfl vc_0_2 cn_0 ?_
          refine xw_iconst dy_returns_126 ki_2 ?_
          refine xw_icmp_ne_mi (J := 146) (a := (if v34 < (s35 25 0) then (0 : Int32) else (1 : Int32))) (b := (0 : Int32)) dy_returns_127 rfl (fun _ E' k' => ?_) (fun _ E' k' => ?_) ?_
          · refine xw_iconst dy_returns_145 ki_0 ?_
            exact k'
          · refine xw_aload0 dy_returns_130 ?_
            refine xw_getR dy_returns_131 fl_y_32 (xl_n hn (by decide)) rfl r_18_15 ?_
            refine xw_iconst dy_returns_134 ki_0 ?_
            refine xw_iald dy_returns_135 (xl_n hn (by decide)) rfl vc_0_2 cn_0 ?_
            refine xw_iload5 dy_returns_136 ?_
            refine xw_icmp_gt_mi (J := 146) (a := (0 : Int32)) (b := (1 : Int32)) dy_returns_138 rfl (fun _ E' k' => ?_) (fun _ E' k' => ?_) ?_
            · refine xw_iconst dy_returns_145 ki_0 ?_
              exact k'
            · refine xw_iconst dy_returns_141 ki_1 ?_
              refine xw_goto dy_returns_142 rfl ?_
              exact k'
            exact k'
          exact k'
        · refine xw_aload0 dy_returns_109 ?_
          refine xw_getR dy_returns_110 fl_y_32 (xl_n hn (by decide)) rfl r_18_15 ?_
          refine xw_iconst dy_returns_113 ki_0 ?_
          refine xw_iald dy_returns_114 (xl_n hn (by decide)) rfl vc_0_2 cn_0 ?_
          refine xw_iload5 dy_returns_115 ?_
          refine xw_icmp_eq_mi (J := 146) (a := (1 : Int32)) (b := (if (s35 24 0) = (2 : Int32) then (if v34 < (s35 25 0) then (0 : Int32) else (1 : Int32)) else (0 : Int32))) dy_returns_117 rfl (fun _ E' k' => ?_) (fun _ E' k' => ?_) ?_
          · refine xw_iconst dy_returns_141 ki_1 ?_
            refine xw_goto dy_returns_142 rfl ?_
            exact k'
          · refine xw_aload0 dy_returns_120 ?_
            refine xw_getR dy_returns_121 fl_y_29 (xl_n hn (by decide)) rfl r_18_14 ?_
            refine xw_iconst dy_returns_124 ki_0 ?_
            refine xw_iald dy_returns_125 (xl_n hn (by decide)) rfl vc_0_2 cn_0 ?_
            refine xw_iconst dy_returns_126 ki_2 ?_
            refine xw_icmp_ne_mi (J := 146) (a := (if v34 < (s35 25 0) then (0 : Int32) else (1 : Int32))) (b := (0 : Int32)) dy_returns_127 rfl (fun _ E' k' => ?_) (fun _ E' k' => ?_) ?_
            · refine xw_iconst dy_returns_145 ki_0 ?_
              exact k'
            · refine xw_aload0 dy_returns_130 ?_
              refine xw_getR dy_returns_131 fl_y_32 (xl_n hn (by decide)) rfl r_18_15 ?_
              refine xw_iconst dy_returns_134 ki_0 ?_
              refine xw_iald dy_returns_135 (xl_n hn (by decide)) rfl vc_0_2 cn_0 ?_
              refine xw_iload5 dy_returns_136 ?_
              refine xw_icmp_gt_mi (J := 146) (a := (0 : Int32)) (b := (1 : Int32)) dy_returns_138 rfl (fun _ E' k' => ?_) (fun _ E' k' => ?_) ?_
              · refine xw_iconst dy_returns_145 ki_0 ?_
                exact k'
              · refine xw_iconst dy_returns_141 ki_1 ?_
                refine xw_goto dy_returns_142 rfl ?_
                exact k'
              exact k'
            exact k'
          exact k'
        refine xw_li (fun v37 e_v37 => ?_)
        refine xw_istore6 dy_returns_146 (Nat.le_of_ble_eq_true rfl) rfl ?_
        refine xw_iload6 dy_returns_148 ?_
        refine xw_if_ne_mw (J := 185) (a := (fy_raise (13 : Int32) (fy_codeOf r2.1 s35) s35)) (b := (if (s35 26 0) = 0 then (fy_raise (11 : Int32) (fy_codeOf r2.1 s35) s35) else s35)) dy_returns_150 rfl (fun _ E' k' => ?_) (fun _ E' k' => ?_) ?_
        · refine xw_aload0 dy_returns_166 ?_
          refine xw_getR dy_returns_167 fl_y_35 (xl_n hn (by decide)) rfl r_18_16 ?_
          refine xw_iconst dy_returns_170 ki_0 ?_
          refine xw_zald dy_returns_171 (xl_n hn (by decide)) rfl vc_0_2 cn_0 ?_
          refine xw_if_ne_mw (J := 185) (a := (fy_raise (11 : Int32) (fy_codeOf r2.1 s35) s35)) (b := s35) dy_returns_172 rfl (fun _ E' k' => ?_) (fun _ E' k' => ?_) ?_
          · exact k'
          · refine xw_aload0 dy_returns_175 ?_
            refine xw_bipush dy_returns_176 kb_11 ?_
            refine xw_iload3 dy_returns_178 ?_
            refine xw_cVi dy_returns_179 (lk_y_returns_179) ok_y_codeOf (my_codeOf hl hn) ⟨Nat.le_of_ble_eq_true rfl, Nat.le_of_ble_eq_true rfl⟩ ?_
            refine xw_cW dy_returns_182 (lk_y_returns_182 (xl_n hn (by decide)) rfl) ok_y_raise (my_raise hl hn) ⟨Nat.le_of_ble_eq_true rfl, Nat.le_of_ble_eq_true rfl⟩ ?_
            exact k'
          exact k'
        · refine xw_aload0 dy_returns_153 ?_
          refine xw_bipush dy_returns_154 kb_13 ?_
          refine xw_iload3 dy_returns_156 ?_
          refine xw_cVi dy_returns_157 (lk_y_returns_157) ok_y_codeOf (my_codeOf hl hn) ⟨Nat.le_of_ble_eq_true rfl, Nat.le_of_ble_eq_true rfl⟩ ?_
          refine xw_cW dy_returns_160 (lk_y_returns_160 (xl_n hn (by decide)) rfl) ok_y_raise (my_raise hl hn) ⟨Nat.le_of_ble_eq_true rfl, Nat.le_of_ble_eq_true rfl⟩ ?_
          refine xw_goto dy_returns_163 rfl ?_
          exact k'
        refine xw_lw (fun s38 e_s38 => ?_)
        have hJ_s38 : yx_J s38 := by rw [e_s38]; exact (xj_i (fun _ => (jy_raise hJ_s35)) (fun _ => (xj_i (fun _ => (jy_raise hJ_s35)) (fun _ => hJ_s35))))
        refine xw_iload5 dy_returns_185 ?_
        refine xw_aload0 dy_returns_187 ?_
        refine xw_getR dy_returns_188 fl_y_13 (xl_n hn (by decide)) rfl r_18_5 ?_
        refine xw_bipush dy_returns_191 kb_21 ?_
        refine xw_iald dy_returns_193 (xl_n hn (by decide)) rfl vc_21_26 cn_21 ?_
        refine xw_icmp_le_mi (J := 202) (a := (0 : Int32)) (b := (1 : Int32)) dy_returns_194 rfl (fun _ E' k' => ?_) (fun _ E' k' => ?_) ?_
        · refine xw_iconst dy_returns_201 ki_0 ?_
          exact k'
        · refine xw_iconst dy_returns_197 ki_1 ?_
          refine xw_goto dy_returns_198 rfl ?_
          exact k'
        refine xw_li (fun v39 e_v39 => ?_)
        refine xw_istore7 dy_returns_202 (Nat.le_of_ble_eq_true rfl) rfl ?_
        refine xw_iconst dy_returns_204 ki_0 ?_
        refine xw_istore8 dy_returns_205 (Nat.le_of_ble_eq_true rfl) rfl ?_
        refine xw_iconst dy_returns_207 ki_0 ?_
        refine xw_istore9 dy_returns_208 (Nat.le_of_ble_eq_true rfl) rfl ?_
        refine xw_iload7 dy_returns_210 ?_
        refine xw_if_eq' dy_returns_212 rfl (fun h40 => ?_) (fun h40 => ?_)
        · refine xw_aload0 dy_returns_235 ?_
          refine xw_cVi dy_returns_236 (lk_y_returns_236 (xl_n hn (by decide)) rfl) ok_y_isRaised (my_isRaised hl hn) ⟨Nat.le_of_ble_eq_true rfl, Nat.le_of_ble_eq_true rfl⟩ ?_
          refine xw_if_eq' dy_returns_239 rfl (fun h41 => ?_) (fun h41 => ?_)
          · refine xw_aload0 dy_returns_243 ?_
            refine xw_getR dy_returns_244 fl_y_13 (xl_n hn (by decide)) rfl r_18_5 ?_
            refine xw_bipush dy_returns_247 kb_21 ?_
            refine xw_iload5 dy_returns_249 ?_
            refine xw_iast dy_returns_251 (by decide) (xl_n hn (by decide)) rfl vc_21_26 cn_21 ?_
            refine xw_lw (fun s42 e_s42 => ?_)
            have hJ_s42 : yx_J s42 := by rw [e_s42]; exact (yx_u hJ_s38 (by decide))
            refine xw_aload0 dy_returns_252 ?_
            refine xw_iload3 dy_returns_253 ?_
            refine xw_iload2 dy_returns_254 ?_
            refine xw_cW dy_returns_255 (lk_y_returns_255 (xl_n hn (by decide)) rfl) ok_y_enter (my_enter hl hn) ⟨Nat.le_of_ble_eq_true rfl, Nat.le_of_ble_eq_true rfl⟩ ?_
            refine xw_lw (fun s43 e_s43 => ?_)
            have hJ_s43 : yx_J s43 := by rw [e_s43]; exact (jy_enter hJ_s42)
            refine xw_aload0 dy_returns_258 ?_
            refine xw_getR dy_returns_259 fl_y_13 (xl_n hn (by decide)) rfl r_18_5 ?_
            refine xw_bipush dy_returns_262 kb_20 ?_
            refine xw_iload4 dy_returns_264 ?_
            refine xw_iconst dy_returns_266 ki_3 ?_
            refine xw_iand dy_returns_267 ?_
            refine xw_iast dy_returns_268 (by decide) (xl_n hn (by decide)) rfl vc_20_26 cn_20 ?_
            refine xw_lw (fun s44 e_s44 => ?_)
            have hJ_s44 : yx_J s44 := by rw [e_s44]; exact (yx_u hJ_s43 (by decide))
            refine xw_aload0 dy_returns_269 ?_
            refine xw_cVi dy_returns_270 (lk_y_returns_270 (xl_n hn (by decide)) rfl) ok_y_isRaised (my_isRaised hl hn) ⟨Nat.le_of_ble_eq_true rfl, Nat.le_of_ble_eq_true rfl⟩ ?_
            refine xw_if_ne' dy_returns_273 rfl (fun h45 => ?_) (fun h45 => ?_)
            · exact xw_vret dy_returns_281 rfl
            · refine xw_iload7 dy_returns_276 ?_
              refine xw_if_ne_f dy_returns_278 rfl h40 ?_
              exact xw_vret dy_returns_281 rfl
          · exact xw_vret dy_returns_242 rfl
        · refine xw_aload0 dy_returns_215 ?_
          refine xw_cPi dy_returns_216 (lk_y_returns_216 (xl_n hn (by decide)) rfl) ok_y_popWord (my_popWord hl hn hJ_s38) ⟨Nat.le_of_ble_eq_true rfl, Nat.le_of_ble_eq_true rfl⟩ ?_
          refine xw_lpi (fun r46 e_r46 => ?_)
          have hJ_r46 : yx_J r46.2 := by rw [e_r46]; exact (jy_popWord hJ_s38)
          refine xw_istore8 dy_returns_219 (Nat.le_of_ble_eq_true rfl) rfl ?_
          refine xw_aload0 dy_returns_221 ?_
          refine xw_cPi dy_returns_222 (lk_y_returns_222 (xl_n hn (by decide)) rfl) ok_y_popWord (my_popWord hl hn hJ_r46) ⟨Nat.le_of_ble_eq_true rfl, Nat.le_of_ble_eq_true rfl⟩ ?_
          refine xw_lpi (fun r47 e_r47 => ?_)
          have hJ_r47 : yx_J r47.2 := by rw [e_r47]; exact (jy_popWord hJ_r46)
          refine xw_istore9 dy_returns_225 (Nat.le_of_ble_eq_true rfl) rfl ?_
          refine xw_aload0 dy_returns_227 ?_
          refine xw_iload9 dy_returns_228 ?_
          refine xw_iload5 dy_returns_230 ?_
          refine xw_cW dy_returns_232 (lk_y_returns_232 (xl_n hn (by decide)) rfl) ok_y_outerStack (my_outerStack hl hn hJ_r47) ⟨Nat.le_of_ble_eq_true rfl, Nat.le_of_ble_eq_true rfl⟩ ?_
          refine xw_lw (fun s48 e_s48 => ?_)
          have hJ_s48 : yx_J s48 := by rw [e_s48]; exact (jy_outerStack hJ_r47)
          refine xw_aload0 dy_returns_235 ?_
          refine xw_cVi dy_returns_236 (lk_y_returns_236 (xl_n hn (by decide)) rfl) ok_y_isRaised (my_isRaised hl hn) ⟨Nat.le_of_ble_eq_true rfl, Nat.le_of_ble_eq_true rfl⟩ ?_
          refine xw_if_eq' dy_returns_239 rfl (fun h49 => ?_) (fun h49 => ?_)
          · refine xw_aload0 dy_returns_243 ?_
            refine xw_getR dy_returns_244 fl_y_13 (xl_n hn (by decide)) rfl r_18_5 ?_
            refine xw_bipush dy_returns_247 kb_21 ?_
            refine xw_iload5 dy_returns_249 ?_
            refine xw_iast dy_returns_251 (by decide) (xl_n hn (by decide)) rfl vc_21_26 cn_21 ?_
            refine xw_lw (fun s50 e_s50 => ?_)
            have hJ_s50 : yx_J s50 := by rw [e_s50]; exact (yx_u hJ_s48 (by decide))
            refine xw_aload0 dy_returns_252 ?_
            refine xw_iload3 dy_returns_253 ?_
            refine xw_iload2 dy_returns_254 ?_
            refine xw_cW dy_returns_255 (lk_y_returns_255 (xl_n hn (by decide)) rfl) ok_y_enter (my_enter hl hn) ⟨Nat.le_of_ble_eq_true rfl, Nat.le_of_ble_eq_true rfl⟩ ?_
            refine xw_lw (fun s51 e_s51 => ?_)
            have hJ_s51 : yx_J s51 := by rw [e_s51]; exact (jy_enter hJ_s50)
            refine xw_aload0 dy_returns_258 ?_
            refine xw_getR dy_returns_259 fl_y_13 (xl_n hn (by decide)) rfl r_18_5 ?_
            refine xw_bipush dy_returns_262 kb_20 ?_
            refine xw_iload4 dy_returns_264 ?_
            refine xw_iconst dy_returns_266 ki_3 ?_
            refine xw_iand dy_returns_267 ?_
            refine xw_iast dy_returns_268 (by decide) (xl_n hn (by decide)) rfl vc_20_26 cn_20 ?_
            refine xw_lw (fun s52 e_s52 => ?_)
            have hJ_s52 : yx_J s52 := by rw [e_s52]; exact (yx_u hJ_s51 (by decide))
            refine xw_aload0 dy_returns_269 ?_
            refine xw_cVi dy_returns_270 (lk_y_returns_270 (xl_n hn (by decide)) rfl) ok_y_isRaised (my_isRaised hl hn) ⟨Nat.le_of_ble_eq_true rfl, Nat.le_of_ble_eq_true rfl⟩ ?_
            refine xw_if_ne' dy_returns_273 rfl (fun h53 => ?_) (fun h53 => ?_)
            · exact xw_vret dy_returns_281 rfl
            · refine xw_iload7 dy_returns_276 ?_
              refine xw_if_ne_t dy_returns_278 rfl h40 ?_
              refine xw_aload0 dy_returns_282 ?_
              refine xw_iconst dy_returns_283 ki_1 ?_
              refine xw_iload9 dy_returns_284 ?_
              refine xw_iconst dy_returns_286 ki_1 ?_
              refine xw_cW dy_returns_287 (lk_y_returns_287 (xl_n hn (by decide)) rfl) ok_y_setSegment (my_setSegment hl hn vc_1_3 vc_1_2) ⟨Nat.le_of_ble_eq_true rfl, Nat.le_of_ble_eq_true rfl⟩ ?_
              refine xw_lw (fun s54 e_s54 => ?_)
              have hJ_s54 : yx_J s54 := by rw [e_s54]; exact (jy_setSegment vc_1_3 vc_1_2 hJ_s52)
              refine xw_aload0 dy_returns_290 ?_
              refine xw_getR dy_returns_291 fl_y_13 (xl_n hn (by decide)) rfl r_18_5 ?_
              refine xw_bipush dy_returns_294 kb_18 ?_
              refine xw_iload8 dy_returns_296 ?_
              refine xw_iast dy_returns_298 (by decide) (xl_n hn (by decide)) rfl vc_18_26 cn_18 ?_
              refine xw_lw (fun s55 e_s55 => ?_)
              have hJ_s55 : yx_J s55 := by rw [e_s55]; exact (yx_u hJ_s54 (by decide))
              refine xw_aload0 dy_returns_299 ?_
              refine xw_getR dy_returns_300 fl_y_13 (xl_n hn (by decide)) rfl r_18_5 ?_
              refine xw_iconst dy_returns_303 ki_5 ?_
              refine xw_iald dy_returns_304 (xl_n hn (by decide)) rfl vc_5_26 cn_5 ?_
              refine xw_if_ne' dy_returns_305 rfl (fun h56 => ?_) (fun h56 => ?_)
              · exact xw_vret dy_returns_337 rfl
              · refine xw_aload0 dy_returns_308 ?_
                refine xw_getR dy_returns_309 fl_y_13 (xl_n hn (by decide)) rfl r_18_5 ?_
                refine xw_bipush dy_returns_312 kb_14 ?_
                refine xw_iald dy_returns_314 (xl_n hn (by decide)) rfl vc_14_26 cn_14 ?_
                refine xw_iconst dy_returns_315 ki_2 ?_
                refine xw_icmp_eq' dy_returns_316 rfl (fun h57 => ?_) (fun h57 => ?_)
                · exact xw_vret dy_returns_337 rfl
                · refine xw_aload0 dy_returns_319 ?_
                  refine xw_getR dy_returns_320 fl_y_13 (xl_n hn (by decide)) rfl r_18_5 ?_
                  refine xw_bipush dy_returns_323 kb_17 ?_
                  refine xw_iald dy_returns_325 (xl_n hn (by decide)) rfl vc_17_26 cn_17 ?_
                  refine xw_iload5 dy_returns_326 ?_
                  refine xw_icmp_ge' dy_returns_328 rfl (fun h58 => ?_) (fun h58 => ?_)
                  · exact xw_vret dy_returns_337 rfl
                  · refine xw_aload0 dy_returns_331 ?_
                    refine xw_iconst dy_returns_332 ki_2 ?_
                    refine xw_iconst dy_returns_333 ki_0 ?_
                    refine xw_cW dy_returns_334 (lk_y_returns_334 (xl_n hn (by decide)) rfl) ok_y_setNull (my_setNull hl hn vc_2_3) ⟨Nat.le_of_ble_eq_true rfl, Nat.le_of_ble_eq_true rfl⟩ ?_
                    refine xw_lw (fun s59 e_s59 => ?_)
                    have hJ_s59 : yx_J s59 := by rw [e_s59]; exact (jy_setNull vc_2_3 hJ_s55)
                    exact xw_vret dy_returns_337 rfl
          · exact xw_vret dy_returns_242 rfl
      · exact xw_vret dy_returns_98 rfl
    · exact xw_vret dy_returns_37 rfl
theorem jy_returns {a1 : Int32} {σ : xs_S} (hJ : yx_J σ) : yx_J (fy_returns a1 σ) := by
  unfold fy_returns
  refine xj_wl (fun r1 e_r1 => ?_)
  have hJ_r1 : yx_J r1.2 := by rw [e_r1]; exact (jy_popWord hJ)
  refine xj_wl (fun r2 e_r2 => ?_)
  have hJ_r2 : yx_J r2.2 := by rw [e_r2]; exact (jy_popWord hJ_r1)
  refine xj_wf (fun h3 => ?_) (fun h3 => ?_)
  · refine xj_wl (fun v4 e_v4 => ?_)
    refine xj_wf (fun h5 => ?_) (fun h5 => ?_)
    · refine xj_wl (fun v6 e_v6 => ?_)
      refine xj_wl (fun s7 e_s7 => ?_)
      have hJ_s7 : yx_J s7 := by rw [e_s7]; exact (xj_i (fun _ => (xj_i (fun _ => (jy_lookUp vc_0_2 hJ_r2)) (fun _ => (jy_raise hJ_r2)))) (fun _ => (jy_raise hJ_r2)))
      refine xj_wf (fun h8 => ?_) (fun h8 => ?_)
      · refine xj_wl (fun v9 e_v9 => ?_)
        refine xj_wl (fun s10 e_s10 => ?_)
        have hJ_s10 : yx_J s10 := by rw [e_s10]; exact (xj_i (fun _ => (jy_raise hJ_s7)) (fun _ => (xj_i (fun _ => (jy_raise hJ_s7)) (fun _ => hJ_s7))))
        refine xj_wl (fun v11 e_v11 => ?_)
        refine xj_wf (fun h12 => ?_) (fun h12 => ?_)
        · refine xj_wf (fun h13 => ?_) (fun h13 => ?_)
          · refine xj_wl (fun s14 e_s14 => ?_)
            have hJ_s14 : yx_J s14 := by rw [e_s14]; exact (yx_u hJ_s10 (by decide))
            refine xj_wl (fun s15 e_s15 => ?_)
            have hJ_s15 : yx_J s15 := by rw [e_s15]; exact (jy_enter hJ_s14)
            refine xj_wl (fun s16 e_s16 => ?_)
            have hJ_s16 : yx_J s16 := by rw [e_s16]; exact (yx_u hJ_s15 (by decide))
            refine xj_wf (fun h17 => ?_) (fun h17 => ?_)
            · exact hJ_s16
            · exact hJ_s16
          · exact hJ_s10
        · refine xj_wl (fun r18 e_r18 => ?_)
          have hJ_r18 : yx_J r18.2 := by rw [e_r18]; exact (jy_popWord hJ_s10)
          refine xj_wl (fun r19 e_r19 => ?_)
          have hJ_r19 : yx_J r19.2 := by rw [e_r19]; exact (jy_popWord hJ_r18)
          refine xj_wl (fun s20 e_s20 => ?_)
          have hJ_s20 : yx_J s20 := by rw [e_s20]; exact (jy_outerStack hJ_r19)
          refine xj_wf (fun h21 => ?_) (fun h21 => ?_)
          · refine xj_wl (fun s22 e_s22 => ?_)
            have hJ_s22 : yx_J s22 := by rw [e_s22]; exact (yx_u hJ_s20 (by decide))
            refine xj_wl (fun s23 e_s23 => ?_)
            have hJ_s23 : yx_J s23 := by rw [e_s23]; exact (jy_enter hJ_s22)
            refine xj_wl (fun s24 e_s24 => ?_)
            have hJ_s24 : yx_J s24 := by rw [e_s24]; exact (yx_u hJ_s23 (by decide))
            refine xj_wf (fun h25 => ?_) (fun h25 => ?_)
            · refine xj_wl (fun s26 e_s26 => ?_)
              have hJ_s26 : yx_J s26 := by rw [e_s26]; exact (jy_setSegment vc_1_3 vc_1_2 hJ_s24)
              refine xj_wl (fun s27 e_s27 => ?_)
              have hJ_s27 : yx_J s27 := by rw [e_s27]; exact (yx_u hJ_s26 (by decide))
              refine xj_wf (fun h28 => ?_) (fun h28 => ?_)
              · refine xj_wf (fun h29 => ?_) (fun h29 => ?_)
                · exact hJ_s27
                · refine xj_wf (fun h30 => ?_) (fun h30 => ?_)
                  · exact hJ_s27
                  · refine xj_wl (fun s31 e_s31 => ?_)
                    have hJ_s31 : yx_J s31 := by rw [e_s31]; exact (jy_setNull vc_2_3 hJ_s27)
                    exact hJ_s31
              · exact hJ_s27
            · exact hJ_s24
          · exact hJ_s20
      · exact hJ_s7
    · exact hJ_r2
  · refine xj_wl (fun r32 e_r32 => ?_)
    have hJ_r32 : yx_J r32.2 := by rw [e_r32]; exact (jy_popWord hJ_r2)
    refine xj_wf (fun h33 => ?_) (fun h33 => ?_)
    · refine xj_wl (fun v34 e_v34 => ?_)
      refine xj_wl (fun s35 e_s35 => ?_)
      have hJ_s35 : yx_J s35 := by rw [e_s35]; exact (xj_i (fun _ => (xj_i (fun _ => (jy_lookUp vc_0_2 hJ_r32)) (fun _ => (jy_raise hJ_r32)))) (fun _ => (jy_raise hJ_r32)))
      refine xj_wf (fun h36 => ?_) (fun h36 => ?_)
      · refine xj_wl (fun v37 e_v37 => ?_)
        refine xj_wl (fun s38 e_s38 => ?_)
        have hJ_s38 : yx_J s38 := by rw [e_s38]; exact (xj_i (fun _ => (jy_raise hJ_s35)) (fun _ => (xj_i (fun _ => (jy_raise hJ_s35)) (fun _ => hJ_s35))))
        refine xj_wl (fun v39 e_v39 => ?_)
        refine xj_wf (fun h40 => ?_) (fun h40 => ?_)
        · refine xj_wf (fun h41 => ?_) (fun h41 => ?_)
          · refine xj_wl (fun s42 e_s42 => ?_)
            have hJ_s42 : yx_J s42 := by rw [e_s42]; exact (yx_u hJ_s38 (by decide))
            refine xj_wl (fun s43 e_s43 => ?_)
            have hJ_s43 : yx_J s43 := by rw [e_s43]; exact (jy_enter hJ_s42)
            refine xj_wl (fun s44 e_s44 => ?_)
            have hJ_s44 : yx_J s44 := by rw [e_s44]; exact (yx_u hJ_s43 (by decide))
            refine xj_wf (fun h45 => ?_) (fun h45 => ?_)
            · exact hJ_s44
            · exact hJ_s44
          · exact hJ_s38
        · refine xj_wl (fun r46 e_r46 => ?_)
          have hJ_r46 : yx_J r46.2 := by rw [e_r46]; exact (jy_popWord hJ_s38)
          refine xj_wl (fun r47 e_r47 => ?_)
          have hJ_r47 : yx_J r47.2 := by rw [e_r47]; exact (jy_popWord hJ_r46)
          refine xj_wl (fun s48 e_s48 => ?_)
          have hJ_s48 : yx_J s48 := by rw [e_s48]; exact (jy_outerStack hJ_r47)
          refine xj_wf (fun h49 => ?_) (fun h49 => ?_)
          · refine xj_wl (fun s50 e_s50 => ?_)
            have hJ_s50 : yx_J s50 := by rw [e_s50]; exact (yx_u hJ_s48 (by decide))
            refine xj_wl (fun s51 e_s51 => ?_)
            have hJ_s51 : yx_J s51 := by rw [e_s51]; exact (jy_enter hJ_s50)
            refine xj_wl (fun s52 e_s52 => ?_)
            have hJ_s52 : yx_J s52 := by rw [e_s52]; exact (yx_u hJ_s51 (by decide))
            refine xj_wf (fun h53 => ?_) (fun h53 => ?_)
            · refine xj_wl (fun s54 e_s54 => ?_)
              have hJ_s54 : yx_J s54 := by rw [e_s54]; exact (jy_setSegment vc_1_3 vc_1_2 hJ_s52)
              refine xj_wl (fun s55 e_s55 => ?_)
              have hJ_s55 : yx_J s55 := by rw [e_s55]; exact (yx_u hJ_s54 (by decide))
              refine xj_wf (fun h56 => ?_) (fun h56 => ?_)
              · refine xj_wf (fun h57 => ?_) (fun h57 => ?_)
                · exact hJ_s55
                · refine xj_wf (fun h58 => ?_) (fun h58 => ?_)
                  · exact hJ_s55
                  · refine xj_wl (fun s59 e_s59 => ?_)
                    have hJ_s59 : yx_J s59 := by rw [e_s59]; exact (jy_setNull vc_2_3 hJ_s55)
                    exact hJ_s59
              · exact hJ_s55
            · exact hJ_s52
          · exact hJ_s48
      · exact hJ_s35
    · exact hJ_r32
