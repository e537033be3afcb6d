/-! The law: one call of both machines. -/
section LX
variable {κ : Nat → Nat × Nat} {l : Launch} {M M' : xw_M} {pc pc' n u len : Nat} {L : List (Option Value)} {S rest As : List Value} {E : xw_O × xw_W} {σ : xs_S} {ρ : xs_R} {ig : Instr}
theorem xw_cE {r : Int32 × xs_S × Nat} (h : xw_dec M.2.1 pc ig len pc') (hlk : xw_lk κ l M M' pc (n, u, σ, xr_0) S rest As) (hok : xw_ok M') (hM : xm_m κ l M' As (n, u, σ, xr_0) (xe_c n u r)) (hroom : xw_rm M M' rest) (k : xw_w κ l M pc' L (.int r.1 :: rest) (n + r.2.2, u + 6 * r.2.2, r.2.1, xr_0) E) : xw_w κ l M pc L S (n, u, σ, xr_0) E := xw_c0 h hlk hok hM hroom k
theorem xw_saldv {i N j : Nat} {x v : Int32} (h : xw_dec M.2.1 pc .iaload 1 pc') (hi : i < n) (hκ : κ i = (3, N)) (hx : vp_in x N) (hj : x.toNatClampNeg = j) (hv : σ i j = v) (kk : xw_w κ l M pc' L (.int v :: S) (n, u, σ, ρ) E) : xw_w κ l M pc L (.int x :: .ref i :: S) (n, u, σ, ρ) E := xw_sald h hi hκ hx hj (by rw [hv]; exact kk)
end LX
def lS (N : Nat) (l : Launch) (i : Int32) (n u : Nat) (σ : xs_S) (pc : Nat) : Prop := ∃ q s', lI s' ∧ s' 0 = σ 0 ∧ q + ld σ ≤ 2 + ld s' ∧ ∀ E, xw_w (xk_k N) l tl_law 632 [some (.ref 0), some (.ref 1), some (.ref 18), some (.int i)] [] (n + q, u + 6 * q, s', xr_0) E → xw_w (xk_k N) l tl_law pc [some (.ref 0), some (.ref 1), some (.ref 18), some (.int i)] [] (n, u, σ, xr_0) E
theorem li_poke {l : Launch} {N n u : Nat} {σ : xs_S} {i : Int32} (hl : l.stackTraces = false) (hn : 29 ≤ n) (hI : lI σ) (v1 : vp_in (i + 1) N) (v2 : vp_in (i + 2) N) (v3 : vp_in (i + 3) N) : lS N l i n u σ 112 := by
  obtain ⟨a1, e1⟩ : ∃ a, σ 0 (i + 1).toNatClampNeg = a := ⟨_, rfl⟩
  obtain ⟨a2, e2⟩ : ∃ a, σ 0 (i + 2).toNatClampNeg = a := ⟨_, rfl⟩
  obtain ⟨c1, c2, c3, c4, c5⟩ := lc_o (fr_poke a1 a2) (fy_poke a1 a2) (fun _ _ h => sm_poke h) (fun _ h => jr_poke h) (fun _ h => jy_poke h) hI
  have m1 := mr_poke (a1 := a1) (a2 := a2) (σ := σ) (N := N) (n := n) (u := u) hl hn
  generalize fr_poke a1 a2 σ = r at c1 c2 c3 c4 c5 m1
  have m2 := my_poke (a1 := a1) (a2 := a2) (σ := r.2) (N := N) (n := n) (u := u) hl hn
  generalize fy_poke a1 a2 r.2 = t at c1 c4 c5 m2
  have f1 : r.2 0 (i + 1).toNatClampNeg = a1 := (congrFun c2 _).trans e1
  have f2 : r.2 0 (i + 2).toNatClampNeg = a2 := (congrFun c2 _).trans e2
  refine ⟨0, t.2, c4, c5, by have := ld_1 σ; omega, fun E k => ?_⟩
  show xw_w (xk_k N) l tl_law 112 [some (.ref 0), some (.ref 1), some (.ref 18), some (.int i)] [] (n, u, σ, xr_0) E
  refine xw_aload1 dl_law_112 ?_
  refine xw_aload0 dl_law_113 ?_
  refine xw_iload3 dl_law_114 ?_
  refine xw_iconst dl_law_115 ki_1 ?_
  refine xw_iadd dl_law_116 ?_
  refine xw_saldv dl_law_117 (xl_n hn (by decide)) rfl v1 rfl e1 ?_
  refine xw_aload0 dl_law_118 ?_
  refine xw_iload3 dl_law_119 ?_
  refine xw_iconst dl_law_120 ki_2 ?_
  refine xw_iadd dl_law_121 ?_
  refine xw_saldv dl_law_122 (xl_n hn (by decide)) rfl v2 rfl e2 ?_
  refine xw_cPi dl_law_123 (lk_l_law_123 (xl_n hn (by decide)) rfl) ok_r_poke m1 ⟨Nat.le_of_ble_eq_true rfl, Nat.le_of_ble_eq_true rfl⟩ ?_
  refine xw_aload2 dl_law_126 ?_
  refine xw_aload0 dl_law_127 ?_
  refine xw_iload3 dl_law_128 ?_
  refine xw_iconst dl_law_129 ki_1 ?_
  refine xw_iadd dl_law_130 ?_
  refine xw_saldv dl_law_131 (xl_n hn (by decide)) rfl v1 rfl f1 ?_
  refine xw_aload0 dl_law_132 ?_
  refine xw_iload3 dl_law_133 ?_
  refine xw_iconst dl_law_134 ki_2 ?_
  refine xw_iadd dl_law_135 ?_
  refine xw_saldv dl_law_136 (xl_n hn (by decide)) rfl v2 rfl f2 ?_
  refine xw_cPi dl_law_137 (lk_l_law_137 (xl_n hn (by decide)) rfl) ok_y_poke m2 ⟨Nat.le_of_ble_eq_true rfl, Nat.le_of_ble_eq_true rfl⟩ ?_
  refine xw_icmp_eq_t dl_law_140 rfl c1 ?_
  exact k
theorem li_peek {l : Launch} {N n u : Nat} {σ : xs_S} {i : Int32} (hl : l.stackTraces = false) (hn : 29 ≤ n) (hI : lI σ) (v1 : vp_in (i + 1) N) (v2 : vp_in (i + 2) N) (v3 : vp_in (i + 3) N) : lS N l i n u σ 145 := by
  obtain ⟨a1, e1⟩ : ∃ a, σ 0 (i + 1).toNatClampNeg = a := ⟨_, rfl⟩
  have c1 : fr_peek a1 σ = fy_peek a1 σ := sm_peek hI.1
  have m1 := mr_peek (a1 := a1) (σ := σ) (N := N) (n := n) (u := u) hl hn
  have m2 := my_peek (a1 := a1) (σ := σ) (N := N) (n := n) (u := u) hl hn
  refine ⟨0, σ, hI, rfl, by omega, fun E k => ?_⟩
  show xw_w (xk_k N) l tl_law 145 [some (.ref 0), some (.ref 1), some (.ref 18), some (.int i)] [] (n, u, σ, xr_0) E
  refine xw_aload1 dl_law_145 ?_
  refine xw_aload0 dl_law_146 ?_
  refine xw_iload3 dl_law_147 ?_
  refine xw_iconst dl_law_148 ki_1 ?_
  refine xw_iadd dl_law_149 ?_
  refine xw_saldv dl_law_150 (xl_n hn (by decide)) rfl v1 rfl e1 ?_
  refine xw_cVi dl_law_151 (lk_l_law_151 (xl_n hn (by decide)) rfl) ok_r_peek m1 ⟨Nat.le_of_ble_eq_true rfl, Nat.le_of_ble_eq_true rfl⟩ ?_
  refine xw_aload2 dl_law_154 ?_
  refine xw_aload0 dl_law_155 ?_
  refine xw_iload3 dl_law_156 ?_
  refine xw_iconst dl_law_157 ki_1 ?_
  refine xw_iadd dl_law_158 ?_
  refine xw_saldv dl_law_159 (xl_n hn (by decide)) rfl v1 rfl e1 ?_
  refine xw_cVi dl_law_160 (lk_l_law_160 (xl_n hn (by decide)) rfl) ok_y_peek m2 ⟨Nat.le_of_ble_eq_true rfl, Nat.le_of_ble_eq_true rfl⟩ ?_
  refine xw_icmp_eq_t dl_law_163 rfl c1 ?_
  exact k
theorem li_fill {l : Launch} {N n u : Nat} {σ : xs_S} {i : Int32} (hl : l.stackTraces = false) (hn : 29 ≤ n) (hI : lI σ) (v1 : vp_in (i + 1) N) (v2 : vp_in (i + 2) N) (v3 : vp_in (i + 3) N) : lS N l i n u σ 168 := by
  obtain ⟨a1, e1⟩ : ∃ a, σ 0 (i + 1).toNatClampNeg = a := ⟨_, rfl⟩
  obtain ⟨a2, e2⟩ : ∃ a, σ 0 (i + 2).toNatClampNeg = a := ⟨_, rfl⟩
  obtain ⟨a3, e3⟩ : ∃ a, σ 0 (i + 3).toNatClampNeg = a := ⟨_, rfl⟩
  obtain ⟨c1, c2, c3, c4, c5⟩ := lc_o (fr_fill a1 ((a2.toInt64 <<< ((32 : Int32).toInt64 &&& 63)) ||| (a3.toInt64 &&& (4294967295 : Int64)))) (fy_fill a1 ((a2.toInt64 <<< ((32 : Int32).toInt64 &&& 63)) ||| (a3.toInt64 &&& (4294967295 : Int64)))) (fun _ _ h => sm_fill h) (fun _ h => jr_fill h) (fun _ h => jy_fill h) hI
  have m1 := mr_fill (a1 := a1) (a2 := (a2.toInt64 <<< ((32 : Int32).toInt64 &&& 63)) ||| (a3.toInt64 &&& (4294967295 : Int64))) (σ := σ) (N := N) (n := n) (u := u) hl hn
  generalize fr_fill a1 ((a2.toInt64 <<< ((32 : Int32).toInt64 &&& 63)) ||| (a3.toInt64 &&& (4294967295 : Int64))) σ = r at c1 c2 c3 c4 c5 m1
  have m2 := my_fill (a1 := a1) (a2 := (a2.toInt64 <<< ((32 : Int32).toInt64 &&& 63)) ||| (a3.toInt64 &&& (4294967295 : Int64))) (σ := r.2) (N := N) (n := n) (u := u) hl hn
  generalize fy_fill a1 ((a2.toInt64 <<< ((32 : Int32).toInt64 &&& 63)) ||| (a3.toInt64 &&& (4294967295 : Int64))) r.2 = t at c1 c4 c5 m2
  have f1 : r.2 0 (i + 1).toNatClampNeg = a1 := (congrFun c2 _).trans e1
  have f2 : r.2 0 (i + 2).toNatClampNeg = a2 := (congrFun c2 _).trans e2
  have f3 : r.2 0 (i + 3).toNatClampNeg = a3 := (congrFun c2 _).trans e3
  refine ⟨0, t.2, c4, c5, by have := ld_1 σ; omega, fun E k => ?_⟩
  show xw_w (xk_k N) l tl_law 168 [some (.ref 0), some (.ref 1), some (.ref 18), some (.int i)] [] (n, u, σ, xr_0) E
  refine xw_aload1 dl_law_168 ?_
  refine xw_aload0 dl_law_169 ?_
  refine xw_iload3 dl_law_170 ?_
  refine xw_iconst dl_law_171 ki_1 ?_
  refine xw_iadd dl_law_172 ?_
  refine xw_saldv dl_law_173 (xl_n hn (by decide)) rfl v1 rfl e1 ?_
  refine xw_aload0 dl_law_174 ?_
  refine xw_iload3 dl_law_175 ?_
  refine xw_iconst dl_law_176 ki_2 ?_
  refine xw_iadd dl_law_177 ?_
  refine xw_saldv dl_law_178 (xl_n hn (by decide)) rfl v2 rfl e2 ?_
  refine xw_i2l dl_law_179 ?_
  refine xw_bipush dl_law_180 kb_32 ?_
  refine xw_lshl dl_law_182 ?_
  refine xw_aload0 dl_law_183 ?_
  refine xw_iload3 dl_law_184 ?_
  refine xw_iconst dl_law_185 ki_3 ?_
  refine xw_iadd dl_law_186 ?_
  refine xw_saldv dl_law_187 (xl_n hn (by decide)) rfl v3 rfl e3 ?_
  refine xw_i2l dl_law_188 ?_
  refine xw_ldc2 dl_law_189 kj_l_23 ?_
  refine xw_land dl_law_192 ?_
  refine xw_lor dl_law_193 ?_
  refine xw_cPi dl_law_194 (lk_l_law_194 (xl_n hn (by decide)) rfl) ok_r_fill m1 ⟨Nat.le_of_ble_eq_true rfl, Nat.le_of_ble_eq_true rfl⟩ ?_
  refine xw_aload2 dl_law_197 ?_
  refine xw_aload0 dl_law_198 ?_
  refine xw_iload3 dl_law_199 ?_
  refine xw_iconst dl_law_200 ki_1 ?_
  refine xw_iadd dl_law_201 ?_
  refine xw_saldv dl_law_202 (xl_n hn (by decide)) rfl v1 rfl f1 ?_
  refine xw_aload0 dl_law_203 ?_
  refine xw_iload3 dl_law_204 ?_
  refine xw_iconst dl_law_205 ki_2 ?_
  refine xw_iadd dl_law_206 ?_
  refine xw_saldv dl_law_207 (xl_n hn (by decide)) rfl v2 rfl f2 ?_
  refine xw_i2l dl_law_208 ?_
  refine xw_bipush dl_law_209 kb_32 ?_
  refine xw_lshl dl_law_211 ?_
  refine xw_aload0 dl_law_212 ?_
  refine xw_iload3 dl_law_213 ?_
  refine xw_iconst dl_law_214 ki_3 ?_
  refine xw_iadd dl_law_215 ?_
  refine xw_saldv dl_law_216 (xl_n hn (by decide)) rfl v3 rfl f3 ?_
  refine xw_i2l dl_law_217 ?_
  refine xw_ldc2 dl_law_218 kj_l_23 ?_
  refine xw_land dl_law_221 ?_
  refine xw_lor dl_law_222 ?_
  refine xw_cPi dl_law_223 (lk_l_law_223 (xl_n hn (by decide)) rfl) ok_y_fill m2 ⟨Nat.le_of_ble_eq_true rfl, Nat.le_of_ble_eq_true rfl⟩ ?_
  refine xw_icmp_eq_t dl_law_226 rfl c1 ?_
  exact k
theorem li_tables {l : Launch} {N n u : Nat} {σ : xs_S} {i : Int32} (hl : l.stackTraces = false) (hn : 29 ≤ n) (hI : lI σ) (v1 : vp_in (i + 1) N) (v2 : vp_in (i + 2) N) (v3 : vp_in (i + 3) N) : lS N l i n u σ 231 := by
  obtain ⟨a1, e1⟩ : ∃ a, σ 0 (i + 1).toNatClampNeg = a := ⟨_, rfl⟩
  obtain ⟨a2, e2⟩ : ∃ a, σ 0 (i + 2).toNatClampNeg = a := ⟨_, rfl⟩
  obtain ⟨a3, e3⟩ : ∃ a, σ 0 (i + 3).toNatClampNeg = a := ⟨_, rfl⟩
  obtain ⟨c1, c2, c3, c4, c5⟩ := lc_o (fr_tables a1 a2 a3) (fy_tables a1 a2 a3) (fun _ _ h => sm_tables h) (fun _ h => jr_tables h) (fun _ h => jy_tables h) hI
  have m1 := mr_tables (a1 := a1) (a2 := a2) (a3 := a3) (σ := σ) (N := N) (n := n) (u := u) hl hn
  generalize fr_tables a1 a2 a3 σ = r at c1 c2 c3 c4 c5 m1
  have m2 := my_tables (a1 := a1) (a2 := a2) (a3 := a3) (σ := r.2) (N := N) (n := n) (u := u) hl hn
  generalize fy_tables a1 a2 a3 r.2 = t at c1 c4 c5 m2
  have f1 : r.2 0 (i + 1).toNatClampNeg = a1 := (congrFun c2 _).trans e1
  have f2 : r.2 0 (i + 2).toNatClampNeg = a2 := (congrFun c2 _).trans e2
  have f3 : r.2 0 (i + 3).toNatClampNeg = a3 := (congrFun c2 _).trans e3
  refine ⟨0, t.2, c4, c5, by have := ld_1 σ; omega, fun E k => ?_⟩
  show xw_w (xk_k N) l tl_law 231 [some (.ref 0), some (.ref 1), some (.ref 18), some (.int i)] [] (n, u, σ, xr_0) E
  refine xw_aload1 dl_law_231 ?_
  refine xw_aload0 dl_law_232 ?_
  refine xw_iload3 dl_law_233 ?_
  refine xw_iconst dl_law_234 ki_1 ?_
  refine xw_iadd dl_law_235 ?_
  refine xw_saldv dl_law_236 (xl_n hn (by decide)) rfl v1 rfl e1 ?_
  refine xw_aload0 dl_law_237 ?_
  refine xw_iload3 dl_law_238 ?_
  refine xw_iconst dl_law_239 ki_2 ?_
  refine xw_iadd dl_law_240 ?_
  refine xw_saldv dl_law_241 (xl_n hn (by decide)) rfl v2 rfl e2 ?_
  refine xw_aload0 dl_law_242 ?_
  refine xw_iload3 dl_law_243 ?_
  refine xw_iconst dl_law_244 ki_3 ?_
  refine xw_iadd dl_law_245 ?_
  refine xw_saldv dl_law_246 (xl_n hn (by decide)) rfl v3 rfl e3 ?_
  refine xw_cPi dl_law_247 (lk_l_law_247 (xl_n hn (by decide)) rfl) ok_r_tables m1 ⟨Nat.le_of_ble_eq_true rfl, Nat.le_of_ble_eq_true rfl⟩ ?_
  refine xw_aload2 dl_law_250 ?_
  refine xw_aload0 dl_law_251 ?_
  refine xw_iload3 dl_law_252 ?_
  refine xw_iconst dl_law_253 ki_1 ?_
  refine xw_iadd dl_law_254 ?_
  refine xw_saldv dl_law_255 (xl_n hn (by decide)) rfl v1 rfl f1 ?_
  refine xw_aload0 dl_law_256 ?_
  refine xw_iload3 dl_law_257 ?_
  refine xw_iconst dl_law_258 ki_2 ?_
  refine xw_iadd dl_law_259 ?_
  refine xw_saldv dl_law_260 (xl_n hn (by decide)) rfl v2 rfl f2 ?_
  refine xw_aload0 dl_law_261 ?_
  refine xw_iload3 dl_law_262 ?_
  refine xw_iconst dl_law_263 ki_3 ?_
  refine xw_iadd dl_law_264 ?_
  refine xw_saldv dl_law_265 (xl_n hn (by decide)) rfl v3 rfl f3 ?_
  refine xw_cPi dl_law_266 (lk_l_law_266 (xl_n hn (by decide)) rfl) ok_y_tables m2 ⟨Nat.le_of_ble_eq_true rfl, Nat.le_of_ble_eq_true rfl⟩ ?_
  refine xw_icmp_eq_t dl_law_269 rfl c1 ?_
  exact k
theorem li_pages {l : Launch} {N n u : Nat} {σ : xs_S} {i : Int32} (hl : l.stackTraces = false) (hn : 29 ≤ n) (hI : lI σ) (v1 : vp_in (i + 1) N) (v2 : vp_in (i + 2) N) (v3 : vp_in (i + 3) N) : lS N l i n u σ 274 := by
  obtain ⟨a1, e1⟩ : ∃ a, σ 0 (i + 1).toNatClampNeg = a := ⟨_, rfl⟩
  obtain ⟨a2, e2⟩ : ∃ a, σ 0 (i + 2).toNatClampNeg = a := ⟨_, rfl⟩
  obtain ⟨c1, c2, c3, c4, c5⟩ := lc_o (fr_pages a1 (if a2 = 0 then (0 : Int32) else (1 : Int32))) (fy_pages a1 (if a2 = 0 then (0 : Int32) else (1 : Int32))) (fun _ _ h => sm_pages h) (fun _ h => jr_pages h) (fun _ h => jy_pages h) hI
  have m1 := mr_pages (a1 := a1) (a2 := if a2 = 0 then (0 : Int32) else (1 : Int32)) (σ := σ) (N := N) (n := n) (u := u) hl hn
  generalize fr_pages a1 (if a2 = 0 then (0 : Int32) else (1 : Int32)) σ = r at c1 c2 c3 c4 c5 m1
  have m2 := my_pages (a1 := a1) (a2 := if a2 = 0 then (0 : Int32) else (1 : Int32)) (σ := r.2) (N := N) (n := n) (u := u) hl hn
  generalize fy_pages a1 (if a2 = 0 then (0 : Int32) else (1 : Int32)) r.2 = t at c1 c4 c5 m2
  have f1 : r.2 0 (i + 1).toNatClampNeg = a1 := (congrFun c2 _).trans e1
  have f2 : r.2 0 (i + 2).toNatClampNeg = a2 := (congrFun c2 _).trans e2
  refine ⟨0, t.2, c4, c5, by have := ld_1 σ; omega, fun E k => ?_⟩
  show xw_w (xk_k N) l tl_law 274 [some (.ref 0), some (.ref 1), some (.ref 18), some (.int i)] [] (n, u, σ, xr_0) E
  refine xw_aload1 dl_law_274 ?_
  refine xw_aload0 dl_law_275 ?_
  refine xw_iload3 dl_law_276 ?_
  refine xw_iconst dl_law_277 ki_1 ?_
  refine xw_iadd dl_law_278 ?_
  refine xw_saldv dl_law_279 (xl_n hn (by decide)) rfl v1 rfl e1 ?_
  refine xw_aload0 dl_law_280 ?_
  refine xw_iload3 dl_law_281 ?_
  refine xw_iconst dl_law_282 ki_2 ?_
  refine xw_iadd dl_law_283 ?_
  refine xw_saldv dl_law_284 (xl_n hn (by decide)) rfl v2 rfl e2 ?_
  refine xw_if_eq_mi (J := 293) (a := (0 : Int32)) (b := (1 : Int32)) dl_law_285 rfl (fun _ E' k' => ?_) (fun _ E' k' => ?_) ?_
  · refine xw_iconst dl_law_292 ki_0 ?_
    exact k'
  · refine xw_iconst dl_law_288 ki_1 ?_
    refine xw_goto dl_law_289 rfl ?_
    exact k'
  refine xw_cPi dl_law_293 (lk_l_law_293 (xl_n hn (by decide)) rfl) ok_r_pages m1 ⟨Nat.le_of_ble_eq_true rfl, Nat.le_of_ble_eq_true rfl⟩ ?_
  refine xw_aload2 dl_law_296 ?_
  refine xw_aload0 dl_law_297 ?_
  refine xw_iload3 dl_law_298 ?_
  refine xw_iconst dl_law_299 ki_1 ?_
  refine xw_iadd dl_law_300 ?_
  refine xw_saldv dl_law_301 (xl_n hn (by decide)) rfl v1 rfl f1 ?_
  refine xw_aload0 dl_law_302 ?_
  refine xw_iload3 dl_law_303 ?_
  refine xw_iconst dl_law_304 ki_2 ?_
  refine xw_iadd dl_law_305 ?_
  refine xw_saldv dl_law_306 (xl_n hn (by decide)) rfl v2 rfl f2 ?_
  refine xw_if_eq_mi (J := 315) (a := (0 : Int32)) (b := (1 : Int32)) dl_law_307 rfl (fun _ E' k' => ?_) (fun _ E' k' => ?_) ?_
  · refine xw_iconst dl_law_314 ki_0 ?_
    exact k'
  · refine xw_iconst dl_law_310 ki_1 ?_
    refine xw_goto dl_law_311 rfl ?_
    exact k'
  refine xw_cPi dl_law_315 (lk_l_law_315 (xl_n hn (by decide)) rfl) ok_y_pages m2 ⟨Nat.le_of_ble_eq_true rfl, Nat.le_of_ble_eq_true rfl⟩ ?_
  refine xw_icmp_eq_t dl_law_318 rfl c1 ?_
  exact k
theorem li_load {l : Launch} {N n u : Nat} {σ : xs_S} {i : Int32} (hl : l.stackTraces = false) (hn : 29 ≤ n) (hI : lI σ) (v1 : vp_in (i + 1) N) (v2 : vp_in (i + 2) N) (v3 : vp_in (i + 3) N) : lS N l i n u σ 323 := by
  obtain ⟨a1, e1⟩ : ∃ a, σ 0 (i + 1).toNatClampNeg = a := ⟨_, rfl⟩
  obtain ⟨a2, e2⟩ : ∃ a, σ 0 (i + 2).toNatClampNeg = a := ⟨_, rfl⟩
  obtain ⟨c1, c2, c3, c4, c5, c6⟩ := lc_c (fr_load a1 a2) (fy_load a1 a2) (fun _ _ h => sm_load h) (fun _ h => dn_load h) (fun _ h => jr_load h) (fun _ h => jy_load h) hI
  have m1 := mr_load (a1 := a1) (a2 := a2) (N := N) (n := n) (u := u) hl hn hI.2.1
  generalize fr_load a1 a2 σ = r at c1 c2 c3 c4 c5 c6 m1
  have hn2 : 29 ≤ n + r.2.2 := Nat.le_trans hn (Nat.le_add_right _ _)
  have m2 := my_load (a1 := a1) (a2 := a2) (N := N) (n := n + r.2.2) (u := u + 6 * r.2.2) hl hn2 c3
  generalize fy_load a1 a2 r.2.1 = t at c1 c4 c5 c6 m2
  have f1 : r.2.1 0 (i + 1).toNatClampNeg = a1 := (congrFun c2 _).trans e1
  have f2 : r.2.1 0 (i + 2).toNatClampNeg = a2 := (congrFun c2 _).trans e2
  refine ⟨r.2.2, t.2, c4, c5, c6, fun E k => ?_⟩
  show xw_w (xk_k N) l tl_law 323 [some (.ref 0), some (.ref 1), some (.ref 18), some (.int i)] [] (n, u, σ, xr_0) E
  refine xw_aload1 dl_law_323 ?_
  refine xw_aload0 dl_law_324 ?_
  refine xw_iload3 dl_law_325 ?_
  refine xw_iconst dl_law_326 ki_1 ?_
  refine xw_iadd dl_law_327 ?_
  refine xw_saldv dl_law_328 (xl_n hn (by decide)) rfl v1 rfl e1 ?_
  refine xw_aload0 dl_law_329 ?_
  refine xw_iload3 dl_law_330 ?_
  refine xw_iconst dl_law_331 ki_2 ?_
  refine xw_iadd dl_law_332 ?_
  refine xw_saldv dl_law_333 (xl_n hn (by decide)) rfl v2 rfl e2 ?_
  refine xw_cE dl_law_334 (lk_l_law_334 (xl_n hn (by decide)) rfl) ok_r_load m1 ⟨Nat.le_of_ble_eq_true rfl, Nat.le_of_ble_eq_true rfl⟩ ?_
  refine xw_aload2 dl_law_337 ?_
  refine xw_aload0 dl_law_338 ?_
  refine xw_iload3 dl_law_339 ?_
  refine xw_iconst dl_law_340 ki_1 ?_
  refine xw_iadd dl_law_341 ?_
  refine xw_saldv dl_law_342 (xl_n hn2 (by decide)) rfl v1 rfl f1 ?_
  refine xw_aload0 dl_law_343 ?_
  refine xw_iload3 dl_law_344 ?_
  refine xw_iconst dl_law_345 ki_2 ?_
  refine xw_iadd dl_law_346 ?_
  refine xw_saldv dl_law_347 (xl_n hn2 (by decide)) rfl v2 rfl f2 ?_
  refine xw_cPi dl_law_348 (lk_l_law_348 (xl_n hn2 (by decide)) rfl) ok_y_load m2 ⟨Nat.le_of_ble_eq_true rfl, Nat.le_of_ble_eq_true rfl⟩ ?_
  refine xw_icmp_eq_t dl_law_351 rfl c1 ?_
  exact k
theorem li_read {l : Launch} {N n u : Nat} {σ : xs_S} {i : Int32} (hl : l.stackTraces = false) (hn : 29 ≤ n) (hI : lI σ) (v1 : vp_in (i + 1) N) (v2 : vp_in (i + 2) N) (v3 : vp_in (i + 3) N) : lS N l i n u σ 356 := by
  obtain ⟨a1, e1⟩ : ∃ a, σ 0 (i + 1).toNatClampNeg = a := ⟨_, rfl⟩
  obtain ⟨a2, e2⟩ : ∃ a, σ 0 (i + 2).toNatClampNeg = a := ⟨_, rfl⟩
  obtain ⟨c1, c2, c3, c4, c5, c6⟩ := lc_c (fr_read a1 a2) (fy_read a1 a2) (fun _ _ h => sm_read h) (fun _ h => dn_read h) (fun _ h => jr_read h) (fun _ h => jy_read h) hI
  have m1 := mr_read (a1 := a1) (a2 := a2) (N := N) (n := n) (u := u) hl hn hI.2.1
  generalize fr_read a1 a2 σ = r at c1 c2 c3 c4 c5 c6 m1
  have hn2 : 29 ≤ n + r.2.2 := Nat.le_trans hn (Nat.le_add_right _ _)
  have m2 := my_read (a1 := a1) (a2 := a2) (N := N) (n := n + r.2.2) (u := u + 6 * r.2.2) hl hn2 c3
  generalize fy_read a1 a2 r.2.1 = t at c1 c4 c5 c6 m2
  have f1 : r.2.1 0 (i + 1).toNatClampNeg = a1 := (congrFun c2 _).trans e1
  have f2 : r.2.1 0 (i + 2).toNatClampNeg = a2 := (congrFun c2 _).trans e2
  refine ⟨r.2.2, t.2, c4, c5, c6, fun E k => ?_⟩
  show xw_w (xk_k N) l tl_law 356 [some (.ref 0), some (.ref 1), some (.ref 18), some (.int i)] [] (n, u, σ, xr_0) E
  refine xw_aload1 dl_law_356 ?_
  refine xw_aload0 dl_law_357 ?_
  refine xw_iload3 dl_law_358 ?_
  refine xw_iconst dl_law_359 ki_1 ?_
  refine xw_iadd dl_law_360 ?_
  refine xw_saldv dl_law_361 (xl_n hn (by decide)) rfl v1 rfl e1 ?_
  refine xw_aload0 dl_law_362 ?_
  refine xw_iload3 dl_law_363 ?_
  refine xw_iconst dl_law_364 ki_2 ?_
  refine xw_iadd dl_law_365 ?_
  refine xw_saldv dl_law_366 (xl_n hn (by decide)) rfl v2 rfl e2 ?_
  refine xw_cE dl_law_367 (lk_l_law_367 (xl_n hn (by decide)) rfl) ok_r_read m1 ⟨Nat.le_of_ble_eq_true rfl, Nat.le_of_ble_eq_true rfl⟩ ?_
  refine xw_aload2 dl_law_370 ?_
  refine xw_aload0 dl_law_371 ?_
  refine xw_iload3 dl_law_372 ?_
  refine xw_iconst dl_law_373 ki_1 ?_
  refine xw_iadd dl_law_374 ?_
  refine xw_saldv dl_law_375 (xl_n hn2 (by decide)) rfl v1 rfl f1 ?_
  refine xw_aload0 dl_law_376 ?_
  refine xw_iload3 dl_law_377 ?_
  refine xw_iconst dl_law_378 ki_2 ?_
  refine xw_iadd dl_law_379 ?_
  refine xw_saldv dl_law_380 (xl_n hn2 (by decide)) rfl v2 rfl f2 ?_
  refine xw_cPi dl_law_381 (lk_l_law_381 (xl_n hn2 (by decide)) rfl) ok_y_read m2 ⟨Nat.le_of_ble_eq_true rfl, Nat.le_of_ble_eq_true rfl⟩ ?_
  refine xw_icmp_eq_t dl_law_384 rfl c1 ?_
  exact k
theorem li_write {l : Launch} {N n u : Nat} {σ : xs_S} {i : Int32} (hl : l.stackTraces = false) (hn : 29 ≤ n) (hI : lI σ) (v1 : vp_in (i + 1) N) (v2 : vp_in (i + 2) N) (v3 : vp_in (i + 3) N) : lS N l i n u σ 389 := by
  obtain ⟨a1, e1⟩ : ∃ a, σ 0 (i + 1).toNatClampNeg = a := ⟨_, rfl⟩
  obtain ⟨a2, e2⟩ : ∃ a, σ 0 (i + 2).toNatClampNeg = a := ⟨_, rfl⟩
  obtain ⟨a3, e3⟩ : ∃ a, σ 0 (i + 3).toNatClampNeg = a := ⟨_, rfl⟩
  obtain ⟨c1, c2, c3, c4, c5, c6⟩ := lc_c (fr_write a1 a2 a3) (fy_write a1 a2 a3) (fun _ _ h => sm_write h) (fun _ h => dn_write h) (fun _ h => jr_write h) (fun _ h => jy_write h) hI
  have m1 := mr_write (a1 := a1) (a2 := a2) (a3 := a3) (N := N) (n := n) (u := u) hl hn hI.2.1
  generalize fr_write a1 a2 a3 σ = r at c1 c2 c3 c4 c5 c6 m1
  have hn2 : 29 ≤ n + r.2.2 := Nat.le_trans hn (Nat.le_add_right _ _)
  have m2 := my_write (a1 := a1) (a2 := a2) (a3 := a3) (N := N) (n := n + r.2.2) (u := u + 6 * r.2.2) hl hn2 c3
  generalize fy_write a1 a2 a3 r.2.1 = t at c1 c4 c5 c6 m2
  have f1 : r.2.1 0 (i + 1).toNatClampNeg = a1 := (congrFun c2 _).trans e1
  have f2 : r.2.1 0 (i + 2).toNatClampNeg = a2 := (congrFun c2 _).trans e2
  have f3 : r.2.1 0 (i + 3).toNatClampNeg = a3 := (congrFun c2 _).trans e3
  refine ⟨r.2.2, t.2, c4, c5, c6, fun E k => ?_⟩
  show xw_w (xk_k N) l tl_law 389 [some (.ref 0), some (.ref 1), some (.ref 18), some (.int i)] [] (n, u, σ, xr_0) E
  refine xw_aload1 dl_law_389 ?_
  refine xw_aload0 dl_law_390 ?_
  refine xw_iload3 dl_law_391 ?_
  refine xw_iconst dl_law_392 ki_1 ?_
  refine xw_iadd dl_law_393 ?_
  refine xw_saldv dl_law_394 (xl_n hn (by decide)) rfl v1 rfl e1 ?_
  refine xw_aload0 dl_law_395 ?_
  refine xw_iload3 dl_law_396 ?_
  refine xw_iconst dl_law_397 ki_2 ?_
  refine xw_iadd dl_law_398 ?_
  refine xw_saldv dl_law_399 (xl_n hn (by decide)) rfl v2 rfl e2 ?_
  refine xw_aload0 dl_law_400 ?_
  refine xw_iload3 dl_law_401 ?_
  refine xw_iconst dl_law_402 ki_3 ?_
  refine xw_iadd dl_law_403 ?_
  refine xw_saldv dl_law_404 (xl_n hn (by decide)) rfl v3 rfl e3 ?_
  refine xw_cE dl_law_405 (lk_l_law_405 (xl_n hn (by decide)) rfl) ok_r_write m1 ⟨Nat.le_of_ble_eq_true rfl, Nat.le_of_ble_eq_true rfl⟩ ?_
  refine xw_aload2 dl_law_408 ?_
  refine xw_aload0 dl_law_409 ?_
  refine xw_iload3 dl_law_410 ?_
  refine xw_iconst dl_law_411 ki_1 ?_
  refine xw_iadd dl_law_412 ?_
  refine xw_saldv dl_law_413 (xl_n hn2 (by decide)) rfl v1 rfl f1 ?_
  refine xw_aload0 dl_law_414 ?_
  refine xw_iload3 dl_law_415 ?_
  refine xw_iconst dl_law_416 ki_2 ?_
  refine xw_iadd dl_law_417 ?_
  refine xw_saldv dl_law_418 (xl_n hn2 (by decide)) rfl v2 rfl f2 ?_
  refine xw_aload0 dl_law_419 ?_
  refine xw_iload3 dl_law_420 ?_
  refine xw_iconst dl_law_421 ki_3 ?_
  refine xw_iadd dl_law_422 ?_
  refine xw_saldv dl_law_423 (xl_n hn2 (by decide)) rfl v3 rfl f3 ?_
  refine xw_cPi dl_law_424 (lk_l_law_424 (xl_n hn2 (by decide)) rfl) ok_y_write m2 ⟨Nat.le_of_ble_eq_true rfl, Nat.le_of_ble_eq_true rfl⟩ ?_
  refine xw_icmp_eq_t dl_law_427 rfl c1 ?_
  exact k
theorem li_push {l : Launch} {N n u : Nat} {σ : xs_S} {i : Int32} (hl : l.stackTraces = false) (hn : 29 ≤ n) (hI : lI σ) (v1 : vp_in (i + 1) N) (v2 : vp_in (i + 2) N) (v3 : vp_in (i + 3) N) : lS N l i n u σ 432 := by
  obtain ⟨a1, e1⟩ : ∃ a, σ 0 (i + 1).toNatClampNeg = a := ⟨_, rfl⟩
  obtain ⟨c1, c2, c3, c4, c5, c6⟩ := lc_c (fr_push a1) (fy_push a1) (fun _ _ h => sm_push h) (fun _ h => dn_push h) (fun _ h => jr_push h) (fun _ h => jy_push h) hI
  have m1 := mr_push (a1 := a1) (N := N) (n := n) (u := u) hl hn hI.2.1
  generalize fr_push a1 σ = r at c1 c2 c3 c4 c5 c6 m1
  have hn2 : 29 ≤ n + r.2.2 := Nat.le_trans hn (Nat.le_add_right _ _)
  have m2 := my_push (a1 := a1) (N := N) (n := n + r.2.2) (u := u + 6 * r.2.2) hl hn2 c3
  generalize fy_push a1 r.2.1 = t at c1 c4 c5 c6 m2
  have f1 : r.2.1 0 (i + 1).toNatClampNeg = a1 := (congrFun c2 _).trans e1
  refine ⟨r.2.2, t.2, c4, c5, c6, fun E k => ?_⟩
  show xw_w (xk_k N) l tl_law 432 [some (.ref 0), some (.ref 1), some (.ref 18), some (.int i)] [] (n, u, σ, xr_0) E
  refine xw_aload1 dl_law_432 ?_
  refine xw_aload0 dl_law_433 ?_
  refine xw_iload3 dl_law_434 ?_
  refine xw_iconst dl_law_435 ki_1 ?_
  refine xw_iadd dl_law_436 ?_
  refine xw_saldv dl_law_437 (xl_n hn (by decide)) rfl v1 rfl e1 ?_
  refine xw_cE dl_law_438 (lk_l_law_438 (xl_n hn (by decide)) rfl) ok_r_push m1 ⟨Nat.le_of_ble_eq_true rfl, Nat.le_of_ble_eq_true rfl⟩ ?_
  refine xw_aload2 dl_law_441 ?_
  refine xw_aload0 dl_law_442 ?_
  refine xw_iload3 dl_law_443 ?_
  refine xw_iconst dl_law_444 ki_1 ?_
  refine xw_iadd dl_law_445 ?_
  refine xw_saldv dl_law_446 (xl_n hn2 (by decide)) rfl v1 rfl f1 ?_
  refine xw_cPi dl_law_447 (lk_l_law_447 (xl_n hn2 (by decide)) rfl) ok_y_push m2 ⟨Nat.le_of_ble_eq_true rfl, Nat.le_of_ble_eq_true rfl⟩ ?_
  refine xw_icmp_eq_t dl_law_450 rfl c1 ?_
  exact k
theorem li_pop {l : Launch} {N n u : Nat} {σ : xs_S} {i : Int32} (hl : l.stackTraces = false) (hn : 29 ≤ n) (hI : lI σ) (v1 : vp_in (i + 1) N) (v2 : vp_in (i + 2) N) (v3 : vp_in (i + 3) N) : lS N l i n u σ 455 := by
  obtain ⟨c1, c2, c3, c4, c5, c6⟩ := lc_c (fr_pop) (fy_pop) (fun _ _ h => sm_pop h) (fun _ h => dn_pop h) (fun _ h => jr_pop h) (fun _ h => jy_pop h) hI
  have m1 := mr_pop (N := N) (n := n) (u := u) hl hn hI.2.1
  generalize fr_pop σ = r at c1 c2 c3 c4 c5 c6 m1
  have hn2 : 29 ≤ n + r.2.2 := Nat.le_trans hn (Nat.le_add_right _ _)
  have m2 := my_pop (N := N) (n := n + r.2.2) (u := u + 6 * r.2.2) hl hn2 c3
  generalize fy_pop r.2.1 = t at c1 c4 c5 c6 m2
  refine ⟨r.2.2, t.2, c4, c5, c6, fun E k => ?_⟩
  show xw_w (xk_k N) l tl_law 455 [some (.ref 0), some (.ref 1), some (.ref 18), some (.int i)] [] (n, u, σ, xr_0) E
  refine xw_aload1 dl_law_455 ?_
  refine xw_cE dl_law_456 (lk_l_law_456 (xl_n hn (by decide)) rfl) ok_r_pop m1 ⟨Nat.le_of_ble_eq_true rfl, Nat.le_of_ble_eq_true rfl⟩ ?_
  refine xw_aload2 dl_law_459 ?_
  refine xw_cPi dl_law_460 (lk_l_law_460 (xl_n hn2 (by decide)) rfl) ok_y_pop m2 ⟨Nat.le_of_ble_eq_true rfl, Nat.le_of_ble_eq_true rfl⟩ ?_
  refine xw_icmp_eq_t dl_law_463 rfl c1 ?_
  exact k
theorem li_far {l : Launch} {N n u : Nat} {σ : xs_S} {i : Int32} (hl : l.stackTraces = false) (hn : 29 ≤ n) (hI : lI σ) (v1 : vp_in (i + 1) N) (v2 : vp_in (i + 2) N) (v3 : vp_in (i + 3) N) : lS N l i n u σ 468 := by
  obtain ⟨a1, e1⟩ : ∃ a, σ 0 (i + 1).toNatClampNeg = a := ⟨_, rfl⟩
  obtain ⟨a2, e2⟩ : ∃ a, σ 0 (i + 2).toNatClampNeg = a := ⟨_, rfl⟩
  obtain ⟨a3, e3⟩ : ∃ a, σ 0 (i + 3).toNatClampNeg = a := ⟨_, rfl⟩
  obtain ⟨c1, c2, c3, c4, c5, c6⟩ := lc_c (fr_far a1 a2 (if a3 = 0 then (0 : Int32) else (1 : Int32))) (fy_far a1 a2 (if a3 = 0 then (0 : Int32) else (1 : Int32))) (fun _ _ h => sm_far h) (fun _ h => dn_far h) (fun _ h => jr_far h) (fun _ h => jy_far h) hI
  have m1 := mr_far (a1 := a1) (a2 := a2) (a3 := if a3 = 0 then (0 : Int32) else (1 : Int32)) (N := N) (n := n) (u := u) hl hn hI.2.1
  generalize fr_far a1 a2 (if a3 = 0 then (0 : Int32) else (1 : Int32)) σ = r at c1 c2 c3 c4 c5 c6 m1
  have hn2 : 29 ≤ n + r.2.2 := Nat.le_trans hn (Nat.le_add_right _ _)
  have m2 := my_far (a1 := a1) (a2 := a2) (a3 := if a3 = 0 then (0 : Int32) else (1 : Int32)) (N := N) (n := n + r.2.2) (u := u + 6 * r.2.2) hl hn2 c3
  generalize fy_far a1 a2 (if a3 = 0 then (0 : Int32) else (1 : Int32)) r.2.1 = t at c1 c4 c5 c6 m2
  have f1 : r.2.1 0 (i + 1).toNatClampNeg = a1 := (congrFun c2 _).trans e1
  have f2 : r.2.1 0 (i + 2).toNatClampNeg = a2 := (congrFun c2 _).trans e2
  have f3 : r.2.1 0 (i + 3).toNatClampNeg = a3 := (congrFun c2 _).trans e3
  refine ⟨r.2.2, t.2, c4, c5, c6, fun E k => ?_⟩
  show xw_w (xk_k N) l tl_law 468 [some (.ref 0), some (.ref 1), some (.ref 18), some (.int i)] [] (n, u, σ, xr_0) E
  refine xw_aload1 dl_law_468 ?_
  refine xw_aload0 dl_law_469 ?_
  refine xw_iload3 dl_law_470 ?_
  refine xw_iconst dl_law_471 ki_1 ?_
  refine xw_iadd dl_law_472 ?_
  refine xw_saldv dl_law_473 (xl_n hn (by decide)) rfl v1 rfl e1 ?_
  refine xw_aload0 dl_law_474 ?_
  refine xw_iload3 dl_law_475 ?_
  refine xw_iconst dl_law_476 ki_2 ?_
  refine xw_iadd dl_law_477 ?_
  refine xw_saldv dl_law_478 (xl_n hn (by decide)) rfl v2 rfl e2 ?_
  refine xw_aload0 dl_law_479 ?_
  refine xw_iload3 dl_law_480 ?_
  refine xw_iconst dl_law_481 ki_3 ?_
  refine xw_iadd dl_law_482 ?_
  refine xw_saldv dl_law_483 (xl_n hn (by decide)) rfl v3 rfl e3 ?_
  refine xw_if_eq_mi (J := 492) (a := (0 : Int32)) (b := (1 : Int32)) dl_law_484 rfl (fun _ E' k' => ?_) (fun _ E' k' => ?_) ?_
  · refine xw_iconst dl_law_491 ki_0 ?_
    exact k'
  · refine xw_iconst dl_law_487 ki_1 ?_
    refine xw_goto dl_law_488 rfl ?_
    exact k'
  refine xw_cE dl_law_492 (lk_l_law_492 (xl_n hn (by decide)) rfl) ok_r_far m1 ⟨Nat.le_of_ble_eq_true rfl, Nat.le_of_ble_eq_true rfl⟩ ?_
  refine xw_aload2 dl_law_495 ?_
  refine xw_aload0 dl_law_496 ?_
  refine xw_iload3 dl_law_497 ?_
  refine xw_iconst dl_law_498 ki_1 ?_
  refine xw_iadd dl_law_499 ?_
  refine xw_saldv dl_law_500 (xl_n hn2 (by decide)) rfl v1 rfl f1 ?_
  refine xw_aload0 dl_law_501 ?_
  refine xw_iload3 dl_law_502 ?_
  refine xw_iconst dl_law_503 ki_2 ?_
  refine xw_iadd dl_law_504 ?_
  refine xw_saldv dl_law_505 (xl_n hn2 (by decide)) rfl v2 rfl f2 ?_
  refine xw_aload0 dl_law_506 ?_
  refine xw_iload3 dl_law_507 ?_
  refine xw_iconst dl_law_508 ki_3 ?_
  refine xw_iadd dl_law_509 ?_
  refine xw_saldv dl_law_510 (xl_n hn2 (by decide)) rfl v3 rfl f3 ?_
  refine xw_if_eq_mi (J := 519) (a := (0 : Int32)) (b := (1 : Int32)) dl_law_511 rfl (fun _ E' k' => ?_) (fun _ E' k' => ?_) ?_
  · refine xw_iconst dl_law_518 ki_0 ?_
    exact k'
  · refine xw_iconst dl_law_514 ki_1 ?_
    refine xw_goto dl_law_515 rfl ?_
    exact k'
  refine xw_cPi dl_law_519 (lk_l_law_519 (xl_n hn2 (by decide)) rfl) ok_y_far m2 ⟨Nat.le_of_ble_eq_true rfl, Nat.le_of_ble_eq_true rfl⟩ ?_
  refine xw_icmp_eq_t dl_law_522 rfl c1 ?_
  exact k
theorem li_back {l : Launch} {N n u : Nat} {σ : xs_S} {i : Int32} (hl : l.stackTraces = false) (hn : 29 ≤ n) (hI : lI σ) (v1 : vp_in (i + 1) N) (v2 : vp_in (i + 2) N) (v3 : vp_in (i + 3) N) : lS N l i n u σ 527 := by
  obtain ⟨c1, c2, c3, c4, c5, c6⟩ := lc_c (fr_back) (fy_back) (fun _ _ h => sm_back h) (fun _ h => dn_back h) (fun _ h => jr_back h) (fun _ h => jy_back h) hI
  have m1 := mr_back (N := N) (n := n) (u := u) hl hn hI.2.1
  generalize fr_back σ = r at c1 c2 c3 c4 c5 c6 m1
  have hn2 : 29 ≤ n + r.2.2 := Nat.le_trans hn (Nat.le_add_right _ _)
  have m2 := my_back (N := N) (n := n + r.2.2) (u := u + 6 * r.2.2) hl hn2 c3
  generalize fy_back r.2.1 = t at c1 c4 c5 c6 m2
  refine ⟨r.2.2, t.2, c4, c5, c6, fun E k => ?_⟩
  show xw_w (xk_k N) l tl_law 527 [some (.ref 0), some (.ref 1), some (.ref 18), some (.int i)] [] (n, u, σ, xr_0) E
  refine xw_aload1 dl_law_527 ?_
  refine xw_cE dl_law_528 (lk_l_law_528 (xl_n hn (by decide)) rfl) ok_r_back m1 ⟨Nat.le_of_ble_eq_true rfl, Nat.le_of_ble_eq_true rfl⟩ ?_
  refine xw_aload2 dl_law_531 ?_
  refine xw_cPi dl_law_532 (lk_l_law_532 (xl_n hn2 (by decide)) rfl) ok_y_back m2 ⟨Nat.le_of_ble_eq_true rfl, Nat.le_of_ble_eq_true rfl⟩ ?_
  refine xw_icmp_eq_t dl_law_535 rfl c1 ?_
  exact k
theorem li_trap {l : Launch} {N n u : Nat} {σ : xs_S} {i : Int32} (hl : l.stackTraces = false) (hn : 29 ≤ n) (hI : lI σ) (v1 : vp_in (i + 1) N) (v2 : vp_in (i + 2) N) (v3 : vp_in (i + 3) N) : lS N l i n u σ 540 := by
  obtain ⟨a1, e1⟩ : ∃ a, σ 0 (i + 1).toNatClampNeg = a := ⟨_, rfl⟩
  obtain ⟨c1, c2, c3, c4, c5, c6⟩ := lc_c (fr_trap a1) (fy_trap a1) (fun _ _ h => sm_trap h) (fun _ h => dn_trap h) (fun _ h => jr_trap h) (fun _ h => jy_trap h) hI
  have m1 := mr_trap (a1 := a1) (N := N) (n := n) (u := u) hl hn hI.2.1
  generalize fr_trap a1 σ = r at c1 c2 c3 c4 c5 c6 m1
  have hn2 : 29 ≤ n + r.2.2 := Nat.le_trans hn (Nat.le_add_right _ _)
  have m2 := my_trap (a1 := a1) (N := N) (n := n + r.2.2) (u := u + 6 * r.2.2) hl hn2 c3
  generalize fy_trap a1 r.2.1 = t at c1 c4 c5 c6 m2
  have f1 : r.2.1 0 (i + 1).toNatClampNeg = a1 := (congrFun c2 _).trans e1
  refine ⟨r.2.2, t.2, c4, c5, c6, fun E k => ?_⟩
  show xw_w (xk_k N) l tl_law 540 [some (.ref 0), some (.ref 1), some (.ref 18), some (.int i)] [] (n, u, σ, xr_0) E
  refine xw_aload1 dl_law_540 ?_
  refine xw_aload0 dl_law_541 ?_
  refine xw_iload3 dl_law_542 ?_
  refine xw_iconst dl_law_543 ki_1 ?_
  refine xw_iadd dl_law_544 ?_
  refine xw_saldv dl_law_545 (xl_n hn (by decide)) rfl v1 rfl e1 ?_
  refine xw_cE dl_law_546 (lk_l_law_546 (xl_n hn (by decide)) rfl) ok_r_trap m1 ⟨Nat.le_of_ble_eq_true rfl, Nat.le_of_ble_eq_true rfl⟩ ?_
  refine xw_aload2 dl_law_549 ?_
  refine xw_aload0 dl_law_550 ?_
  refine xw_iload3 dl_law_551 ?_
  refine xw_iconst dl_law_552 ki_1 ?_
  refine xw_iadd dl_law_553 ?_
  refine xw_saldv dl_law_554 (xl_n hn2 (by decide)) rfl v1 rfl f1 ?_
  refine xw_cPi dl_law_555 (lk_l_law_555 (xl_n hn2 (by decide)) rfl) ok_y_trap m2 ⟨Nat.le_of_ble_eq_true rfl, Nat.le_of_ble_eq_true rfl⟩ ?_
  refine xw_icmp_eq_t dl_law_558 rfl c1 ?_
  exact k
theorem li_end {l : Launch} {N n u : Nat} {σ : xs_S} {i : Int32} (hl : l.stackTraces = false) (hn : 29 ≤ n) (hI : lI σ) (v1 : vp_in (i + 1) N) (v2 : vp_in (i + 2) N) (v3 : vp_in (i + 3) N) : lS N l i n u σ 563 := by
  obtain ⟨c1, c2, c3, c4, c5, c6⟩ := lc_c (fr_end) (fy_end) (fun _ _ h => sm_end h) (fun _ h => dn_end h) (fun _ h => jr_end h) (fun _ h => jy_end h) hI
  have m1 := mr_end (N := N) (n := n) (u := u) hl hn hI.2.1
  generalize fr_end σ = r at c1 c2 c3 c4 c5 c6 m1
  have hn2 : 29 ≤ n + r.2.2 := Nat.le_trans hn (Nat.le_add_right _ _)
  have m2 := my_end (N := N) (n := n + r.2.2) (u := u + 6 * r.2.2) hl hn2 c3
  generalize fy_end r.2.1 = t at c1 c4 c5 c6 m2
  refine ⟨r.2.2, t.2, c4, c5, c6, fun E k => ?_⟩
  show xw_w (xk_k N) l tl_law 563 [some (.ref 0), some (.ref 1), some (.ref 18), some (.int i)] [] (n, u, σ, xr_0) E
  refine xw_aload1 dl_law_563 ?_
  refine xw_cE dl_law_564 (lk_l_law_564 (xl_n hn (by decide)) rfl) ok_r_end m1 ⟨Nat.le_of_ble_eq_true rfl, Nat.le_of_ble_eq_true rfl⟩ ?_
  refine xw_aload2 dl_law_567 ?_
  refine xw_cPi dl_law_568 (lk_l_law_568 (xl_n hn2 (by decide)) rfl) ok_y_end m2 ⟨Nat.le_of_ble_eq_true rfl, Nat.le_of_ble_eq_true rfl⟩ ?_
  refine xw_icmp_eq_t dl_law_571 rfl c1 ?_
  exact k
theorem li_register {l : Launch} {N n u : Nat} {σ : xs_S} {i : Int32} (hl : l.stackTraces = false) (hn : 29 ≤ n) (hI : lI σ) (v1 : vp_in (i + 1) N) (v2 : vp_in (i + 2) N) (v3 : vp_in (i + 3) N) : lS N l i n u σ 576 := by
  obtain ⟨a1, e1⟩ : ∃ a, σ 0 (i + 1).toNatClampNeg = a := ⟨_, rfl⟩
  have c1 : fr_register a1 σ = fy_register a1 σ := sm_register hI.1
  have m1 := mr_register (a1 := a1) (σ := σ) (N := N) (n := n) (u := u) hl hn
  have m2 := my_register (a1 := a1) (σ := σ) (N := N) (n := n) (u := u) hl hn
  refine ⟨0, σ, hI, rfl, by omega, fun E k => ?_⟩
  show xw_w (xk_k N) l tl_law 576 [some (.ref 0), some (.ref 1), some (.ref 18), some (.int i)] [] (n, u, σ, xr_0) E
  refine xw_aload1 dl_law_576 ?_
  refine xw_aload0 dl_law_577 ?_
  refine xw_iload3 dl_law_578 ?_
  refine xw_iconst dl_law_579 ki_1 ?_
  refine xw_iadd dl_law_580 ?_
  refine xw_saldv dl_law_581 (xl_n hn (by decide)) rfl v1 rfl e1 ?_
  refine xw_cVi dl_law_582 (lk_l_law_582 (xl_n hn (by decide)) rfl) ok_r_register m1 ⟨Nat.le_of_ble_eq_true rfl, Nat.le_of_ble_eq_true rfl⟩ ?_
  refine xw_aload2 dl_law_585 ?_
  refine xw_aload0 dl_law_586 ?_
  refine xw_iload3 dl_law_587 ?_
  refine xw_iconst dl_law_588 ki_1 ?_
  refine xw_iadd dl_law_589 ?_
  refine xw_saldv dl_law_590 (xl_n hn (by decide)) rfl v1 rfl e1 ?_
  refine xw_cVi dl_law_591 (lk_l_law_591 (xl_n hn (by decide)) rfl) ok_y_register m2 ⟨Nat.le_of_ble_eq_true rfl, Nat.le_of_ble_eq_true rfl⟩ ?_
  refine xw_icmp_eq_t dl_law_594 rfl c1 ?_
  exact k
theorem li_segment {l : Launch} {N n u : Nat} {σ : xs_S} {i : Int32} (hl : l.stackTraces = false) (hn : 29 ≤ n) (hI : lI σ) (v1 : vp_in (i + 1) N) (v2 : vp_in (i + 2) N) (v3 : vp_in (i + 3) N) : lS N l i n u σ 599 := by
  obtain ⟨a1, e1⟩ : ∃ a, σ 0 (i + 1).toNatClampNeg = a := ⟨_, rfl⟩
  obtain ⟨a2, e2⟩ : ∃ a, σ 0 (i + 2).toNatClampNeg = a := ⟨_, rfl⟩
  have c1 : fr_segment a1 a2 σ = fy_segment a1 a2 σ := sm_segment hI.1
  have m1 := mr_segment (a1 := a1) (a2 := a2) (σ := σ) (N := N) (n := n) (u := u) hl hn
  have m2 := my_segment (a1 := a1) (a2 := a2) (σ := σ) (N := N) (n := n) (u := u) hl hn
  refine ⟨0, σ, hI, rfl, by omega, fun E k => ?_⟩
  show xw_w (xk_k N) l tl_law 599 [some (.ref 0), some (.ref 1), some (.ref 18), some (.int i)] [] (n, u, σ, xr_0) E
  refine xw_aload1 dl_law_599 ?_
  refine xw_aload0 dl_law_600 ?_
  refine xw_iload3 dl_law_601 ?_
  refine xw_iconst dl_law_602 ki_1 ?_
  refine xw_iadd dl_law_603 ?_
  refine xw_saldv dl_law_604 (xl_n hn (by decide)) rfl v1 rfl e1 ?_
  refine xw_aload0 dl_law_605 ?_
  refine xw_iload3 dl_law_606 ?_
  refine xw_iconst dl_law_607 ki_2 ?_
  refine xw_iadd dl_law_608 ?_
  refine xw_saldv dl_law_609 (xl_n hn (by decide)) rfl v2 rfl e2 ?_
  refine xw_cVi dl_law_610 (lk_l_law_610 (xl_n hn (by decide)) rfl) ok_r_segment m1 ⟨Nat.le_of_ble_eq_true rfl, Nat.le_of_ble_eq_true rfl⟩ ?_
  refine xw_aload2 dl_law_613 ?_
  refine xw_aload0 dl_law_614 ?_
  refine xw_iload3 dl_law_615 ?_
  refine xw_iconst dl_law_616 ki_1 ?_
  refine xw_iadd dl_law_617 ?_
  refine xw_saldv dl_law_618 (xl_n hn (by decide)) rfl v1 rfl e1 ?_
  refine xw_aload0 dl_law_619 ?_
  refine xw_iload3 dl_law_620 ?_
  refine xw_iconst dl_law_621 ki_2 ?_
  refine xw_iadd dl_law_622 ?_
  refine xw_saldv dl_law_623 (xl_n hn (by decide)) rfl v2 rfl e2 ?_
  refine xw_cVi dl_law_624 (lk_l_law_624 (xl_n hn (by decide)) rfl) ok_y_segment m2 ⟨Nat.le_of_ble_eq_true rfl, Nat.le_of_ble_eq_true rfl⟩ ?_
  refine xw_icmp_eq_t dl_law_627 rfl c1 ?_
  exact k
