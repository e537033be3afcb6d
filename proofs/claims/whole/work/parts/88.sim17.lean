/-! A task is switched: its registers. -/
variable {zs : Int32}
theorem or_3 : ∀ n, n < 4 → (nI n ||| 2).toInt ≤ 3 ∧ 0 ≤ (nI n ||| 2).toInt ∧ (nI n ||| 0).toInt ≤ 3 ∧ 0 ≤ (nI n ||| 0).toInt := by decide +kernel
theorem or_j (x a : Int32) : jr_R ((x &&& 3) ||| (if a = 1 then (2 : Int32) else 0)) 3 := by
  obtain ⟨n, hn, e⟩ := pk_andE x 2 (m := 3) (by decide)
  obtain ⟨a1, a2, a3, a4⟩ := or_3 n (by omega)
  rw [e]
  by_cases c : a = 1
  · rw [if_pos c]; exact ⟨a2, a1⟩
  · rw [if_neg c]; exact ⟨a4, a3⟩
section ZP
variable {fc : Int32 × Int32} {fr wt : Int32} {σ τ : xs_S}
theorem zT_tu {sel way : Int32} (h : zQ zs fc fr wt σ τ) (hs : jr_R sel 65535) (b w0 w1 w2 w6 w7 : Int32) : zT (xu_u (xu_u (xu_u (xu_u (xu_u (xu_u (xu_u σ 3 7 (sel &&& 65532)) 3 8 b) 3 4 w0) 3 5 ((w1 &&& 3) ||| (if way = 1 then (2 : Int32) else 0))) 3 3 w2) 3 6 (w6 &&& 3)) 3 9 (w7 &&& 31)) (xu_u (xu_u (xu_u (xu_u (xu_u (xu_u (xu_u (xu_u (xu_u τ 18 10 1) 18 11 1) 20 22 (sel &&& 65532)) 20 23 b) 20 19 w0) 20 20 ((w1 &&& 3) ||| (if way = 1 then (2 : Int32) else 0))) 20 18 w2) 20 21 (w6 &&& 3)) 20 24 (w7 &&& 31)) := by
  obtain ⟨⟨g, m, r, _⟩, ⟨a0, a1, a2, a3, _, _, _, _, _, _, a10⟩, _⟩ := h
  have jc : jr_R (sel &&& 65532) 65535 := by
    obtain ⟨_, c, hc, _, e⟩ := sl_code (σ := σ) (τ := τ) hs
    unfold fy_codeOf at e
    rw [e]
    exact bt_j (n := c) (m := 65535) (by omega) (by decide)
  have jd : jr_R (w7 &&& 31) 31 := jr_and (k := 5) (by decide) (by decide) (by decide)
  exact ⟨⟨g, m, r, rfl, jd, rfl⟩, ⟨a0, a1, a2, a3, rfl, rfl, ⟨rfl, sl_3 w6⟩, ⟨rfl, jc⟩, rfl, ⟨rfl, jd⟩, a10⟩, ⟨rfl, or_j w1 way⟩, rfl, rfl⟩
theorem sv_tu {sel way bs : Int32} (h : zQ zs fc fr wt σ τ) (hs : jr_R sel 65535) (h0 : σ 13 0 = sel) (h1 : σ 13 1 = bs) (w0 : σ 16 0 = τ 28 0) (w1 : σ 16 1 = τ 28 1) (w2 : σ 16 2 = τ 28 2) (w3 : σ 16 3 = τ 28 3 ∧ jr_R (σ 16 3) 65535) (w4 : σ 16 4 = τ 28 4 ∧ jr_R (σ 16 4) 65535) (w5 : σ 16 5 = τ 28 5 ∧ jr_R (σ 16 5) 65535) (w6 : σ 16 6 = τ 28 6) (w7 : σ 16 7 = τ 28 7) : zz_Z (xl_l ((xu_u σ 3 7 (fr_codeOf (σ 13 0) σ))) (fun s32 => xl_l ((xu_u s32 3 8 (s32 13 1))) (fun s33 => xl_l ((xu_u s33 3 4 (s33 16 0))) (fun s34 => xl_l ((xu_u s34 3 5 (((s34 16 1) &&& (3 : Int32)) ||| (if way = (1 : Int32) then (2 : Int32) else (0 : Int32))))) (fun s35 => xl_l ((xu_u s35 3 3 (s35 16 2))) (fun s36 => xl_l ((xu_u s36 3 6 ((s36 16 6) &&& (3 : Int32)))) (fun s37 => xl_l ((xu_u s37 3 9 ((s37 16 7) &&& (31 : Int32)))) (fun s38 => xp_b (fr_takeSegment (0 : Int32) (s38 16 3) s38) (fun b39 s40 => xp_b (fr_takeSegment (1 : Int32) (s40 16 4) s40) (fun b41 s42 => xp_b (fr_takeSegment (2 : Int32) (s42 16 5) s42) (fun b43 s44 => (some (), s44)))))))))))) (tw_u sel way bs τ) (fun (_ : Unit) σ' τ' => zT σ' τ' ∧ zX σ σ' τ τ') (fun σ' τ' => zU σ' τ' ∧ zX σ σ' τ τ') := by
  unfold tw_u
  have ec : fr_codeOf (σ 13 0) σ = sel &&& 65532 := by rw [h0]; exact (sl_code (τ := τ) hs).1
  simp only [xl_e, xu_row (show (16 : Nat) ≠ 3 by decide), xu_row (show (13 : Nat) ≠ 3 by decide), xu_row (show (28 : Nat) ≠ 20 by decide), xu_row (show (28 : Nat) ≠ 18 by decide), fy_codeOf, ec, h1, w0, w1, w2, w6, w7, show (1 : Int32) &&& 1 = 1 by decide]
  have hT := zT_tu (way := way) h hs bs (τ 28 0) (τ 28 1) (τ 28 2) (τ 28 6) (τ 28 7)
  have KS : zf_F zl_C σ (xu_u (xu_u (xu_u (xu_u (xu_u (xu_u (xu_u σ 3 7 (sel &&& 65532)) 3 8 bs) 3 4 (τ 28 0)) 3 5 ((τ 28 1 &&& 3) ||| (if way = 1 then (2 : Int32) else 0))) 3 3 (τ 28 2)) 3 6 (τ 28 6 &&& 3)) 3 9 (τ 28 7 &&& 31)) := zf_u (zf_u (zf_u (zf_u (zf_u (zf_u (zf_u zf_r (by decide)) (by decide)) (by decide)) (by decide)) (by decide)) (by decide)) (by decide)
  have KT : zf_F zl_Y τ (xu_u (xu_u (xu_u (xu_u (xu_u (xu_u (xu_u (xu_u (xu_u τ 18 10 1) 18 11 1) 20 22 (sel &&& 65532)) 20 23 bs) 20 19 (τ 28 0)) 20 20 ((τ 28 1 &&& 3) ||| (if way = 1 then (2 : Int32) else 0))) 20 18 (τ 28 2)) 20 21 (τ 28 6 &&& 3)) 20 24 (τ 28 7 &&& 31)) := zf_u (zf_u (zf_u (zf_u (zf_u (zf_u (zf_u (zf_u (zf_u zf_r (by decide)) (by decide)) (by decide)) (by decide)) (by decide)) (by decide)) (by decide)) (by decide)) (by decide)
  have R16 : (xu_u (xu_u (xu_u (xu_u (xu_u (xu_u (xu_u σ 3 7 (sel &&& 65532)) 3 8 bs) 3 4 (τ 28 0)) 3 5 ((τ 28 1 &&& 3) ||| (if way = 1 then (2 : Int32) else 0))) 3 3 (τ 28 2)) 3 6 (τ 28 6 &&& 3)) 3 9 (τ 28 7 &&& 31)) 16 = σ 16 := by
    simp only [xu_row (show (16 : Nat) ≠ 3 by decide)]
  generalize xu_u (xu_u (xu_u (xu_u (xu_u (xu_u (xu_u σ 3 7 (sel &&& 65532)) 3 8 bs) 3 4 (τ 28 0)) 3 5 ((τ 28 1 &&& 3) ||| (if way = 1 then (2 : Int32) else 0))) 3 3 (τ 28 2)) 3 6 (τ 28 6 &&& 3)) 3 9 (τ 28 7 &&& 31) = S at hT KS R16 ⊢
  generalize xu_u (xu_u (xu_u (xu_u (xu_u (xu_u (xu_u (xu_u (xu_u τ 18 10 1) 18 11 1) 20 22 (sel &&& 65532)) 20 23 bs) 20 19 (τ 28 0)) 20 20 ((τ 28 1 &&& 3) ||| (if way = 1 then (2 : Int32) else 0))) 20 18 (τ 28 2)) 20 21 (τ 28 6 &&& 3)) 20 24 (τ 28 7 &&& 31) = T at hT KT ⊢
  rw [w3.1]
  refine zz_o (g := fun x => fy_take 2 (τ 28 5) (fy_take 1 (τ 28 4) x)) (sv_take (d := 4) (k := 0) (Or.inl ⟨rfl, rfl, rfl⟩) hT (w3.1 ▸ w3.2)) (fun _ σ1 τ1 q => ?_) (fun σ1 τ1 q => ?_)
  case refine_2 =>
    show zU σ1 (fy_take 2 (τ 28 5) (fy_take 1 (τ 28 4) τ1)) ∧ zX σ σ1 τ (fy_take 2 (τ 28 5) (fy_take 1 (τ 28 4) τ1))
    rw [ym_take (zU_n q.1), ym_take (zU_n q.1)]
    exact ⟨q.1, zf_t KS (zf_m q.2.1 (by decide)), zf_t KT (zf_m q.2.2 (by decide))⟩
  obtain ⟨t1, f1, g1⟩ := q
  have r1 : σ1 16 = σ 16 := (f1 16 (by decide)).trans R16
  rw [r1, w4.1]
  refine zz_o (g := fun x => fy_take 2 (τ 28 5) x) (sv_take (d := 5) (k := 1) (Or.inr (Or.inl ⟨rfl, rfl, rfl⟩)) t1 (w4.1 ▸ w4.2)) (fun _ σ2 τ2 q => ?_) (fun σ2 τ2 q => ?_)
  case refine_2 =>
    show zU σ2 (fy_take 2 (τ 28 5) τ2) ∧ zX σ σ2 τ (fy_take 2 (τ 28 5) τ2)
    rw [ym_take (zU_n q.1)]
    exact ⟨q.1, zf_t KS (zf_m (zf_t f1 q.2.1) (by decide)), zf_t KT (zf_m (zf_t g1 q.2.2) (by decide))⟩
  obtain ⟨t2, f2, g2⟩ := q
  have r2 : σ2 16 = σ 16 := (f2 16 (by decide)).trans r1
  rw [r2, w5.1]
  refine zz_o (g := fun x => x) (sv_take (d := 6) (k := 2) (Or.inr (Or.inr ⟨rfl, rfl, rfl⟩)) t2 (w5.1 ▸ w5.2)) (fun _ σ3 τ3 q => ?_) (fun σ3 τ3 q => ?_)
  · exact zz_s ⟨q.1, zf_t KS (zf_m (zf_t f1 (zf_t f2 q.2.1)) (by decide)), zf_t KT (zf_m (zf_t g1 (zf_t g2 q.2.2)) (by decide))⟩
  · exact ⟨q.1, zf_t KS (zf_m (zf_t f1 (zf_t f2 q.2.1)) (by decide)), zf_t KT (zf_m (zf_t g1 (zf_t g2 q.2.2)) (by decide))⟩
end ZP
