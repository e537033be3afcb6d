/-! Bytes, and the way to them. -/
theorem bt_o {x : Int32} (h : jr_R x 255) : ∃ n : Nat, n < 256 ∧ x = nI n := by
  obtain ⟨j, hj, e⟩ := jr_nat (m := 255) (by decide) h
  exact ⟨j, by omega, e⟩
theorem bt_j {n m : Nat} (h : n ≤ m) (hm : m < 2 ^ 31) : jr_R (nI n) m := by
  unfold jr_R
  rw [nI_toInt (by omega)]
  omega
theorem bt_and (a b : Nat) : nI a &&& nI b = nI (a &&& b) := by
  apply Int32.toBitVec_inj.mp
  show BitVec.ofNat 32 a &&& BitVec.ofNat 32 b = BitVec.ofNat 32 (a &&& b)
  exact BitVec.ofNat_and.symm
theorem bt_1 : ∀ n, n < 256 → (nI n &&& 1 = 0 ∨ nI n &&& 1 = 1) := by decide +kernel
theorem bt_46 : ∀ n, n < 256 → ((nI n &&& 6 = 6 ↔ ¬ nI n &&& 4 = 0 ∧ ¬ nI n &&& 2 = 0) ∧ (nI n &&& 4 = 4 ↔ ¬ nI n &&& 4 = 0)) := by decide +kernel
theorem bt_32 : ∀ n, n < 256 → (nI n ||| 32).toInt ≤ 255 ∧ 0 ≤ (nI n ||| 32).toInt ∧ (nI n ||| 96).toInt ≤ 255 ∧ 0 ≤ (nI n ||| 96).toInt := by decide +kernel
theorem bt_a1 (x y : Int32) : x &&& y &&& 1 = (x &&& 1) &&& (y &&& 1) := by
  rw [Int32.and_assoc x 1 (y &&& 1), ← Int32.and_assoc 1 y 1, Int32.and_comm 1 y, Int32.and_assoc y 1 1, show (1 : Int32) &&& 1 = 1 by decide, Int32.and_assoc]
theorem bt_both {x y : Int32} (hx : jr_R x 255) (hy : jr_R y 255) : (x &&& y &&& 1 = 0 ∧ (if (if x &&& 1 = 1 then (1 : Int32) else 0) = 0 then (0 : Int32) else if y &&& 1 = 1 then 1 else 0) = 0) ∨ (¬ x &&& y &&& 1 = 0 ∧ (if (if x &&& 1 = 1 then (1 : Int32) else 0) = 0 then (0 : Int32) else if y &&& 1 = 1 then 1 else 0) = 1) := by
  obtain ⟨a, ha, rfl⟩ := bt_o hx
  obtain ⟨b, hb, rfl⟩ := bt_o hy
  rw [bt_a1]
  rcases bt_1 a ha with h1 | h1 <;> rcases bt_1 b hb with h2 | h2 <;> rw [h1, h2] <;> decide
theorem bt_jand {x y : Int32} (hx : jr_R x 255) (hy : jr_R y 255) : jr_R (x &&& y) 255 := by
  obtain ⟨a, ha, rfl⟩ := bt_o hx
  obtain ⟨b, hb, rfl⟩ := bt_o hy
  rw [bt_and]
  have : a &&& b ≤ a := Nat.and_le_left
  exact bt_j (n := a &&& b) (m := 255) (by omega) (by decide)
theorem bt_row {σ τ : xs_S} {k : Nat} {v : Int32} (h : σ 12 = τ 19) : xu_u σ 12 k v 12 = xu_u τ 19 k v 19 := by
  funext b
  show (if b = k then v else σ 12 b) = (if b = k then v else τ 19 b)
  rw [h]
theorem bt_rng {σ : xs_S} {k : Nat} {v : Int32} (h : ∀ a, jr_R (σ 12 a) 255) (hv : jr_R v 255) : ∀ a, jr_R (xu_u σ 12 k v 12 a) 255 := by
  intro a
  show jr_R (if a = k then v else σ 12 a) 255
  by_cases e : a = k
  · rw [if_pos e]; exact hv
  · rw [if_neg e]; exact h a
theorem bt_or {x w : Int32} (hx : jr_R x 255) : jr_R (x ||| 32) 255 ∧ jr_R (x ||| (if w = 0 then 32 else 96)) 255 := by
  obtain ⟨a, ha, rfl⟩ := bt_o hx
  obtain ⟨h1, h2, h3, h4⟩ := bt_32 a ha
  refine ⟨⟨h2, h1⟩, ?_⟩
  by_cases e : w = 0
  · rw [if_pos e]; exact ⟨h2, h1⟩
  · rw [if_neg e]; exact ⟨h4, h3⟩
theorem bt_bar {z w : Int32} (hz : jr_R z 255) : ((if (z &&& (if w = 0 then (4 : Int32) else 6)) = (if w = 0 then (4 : Int32) else 6) then (0 : Int32) else 1) = (if z &&& 4 = 0 then (1 : Int32) else if w = 0 then 0 else if z &&& 2 = 0 then 1 else 0)) ∧ ((if (z &&& (if w = 0 then (4 : Int32) else 6)) = (if w = 0 then (4 : Int32) else 6) then (0 : Int32) else 1) = 0 ∨ (if (z &&& (if w = 0 then (4 : Int32) else 6)) = (if w = 0 then (4 : Int32) else 6) then (0 : Int32) else 1) = 1) := by
  obtain ⟨a, ha, rfl⟩ := bt_o hz
  obtain ⟨h6, h4⟩ := bt_46 a ha
  by_cases e : w = 0
  · rw [if_pos e, if_pos e]
    by_cases e4 : nI a &&& 4 = 0
    · rw [if_neg (fun q => h4.mp q e4), if_pos e4]; exact ⟨rfl, Or.inr rfl⟩
    · rw [if_pos (h4.mpr e4), if_neg e4]; exact ⟨rfl, Or.inl rfl⟩
  · rw [if_neg e, if_neg e]
    by_cases e4 : nI a &&& 4 = 0
    · rw [if_neg (fun q => (h6.mp q).1 e4), if_pos e4]; exact ⟨rfl, Or.inr rfl⟩
    · by_cases e2 : nI a &&& 2 = 0
      · rw [if_neg (fun q => (h6.mp q).2 e2), if_neg e4, if_pos e2]; exact ⟨rfl, Or.inr rfl⟩
      · rw [if_pos (h6.mpr ⟨e4, e2⟩), if_neg e4, if_neg e2]; exact ⟨rfl, Or.inl rfl⟩
theorem bt_code (w : Int32) (b : Bool) : ∃ c : Nat, c ≤ 6 ∧ (if w = 0 then (0 : Int32) else 2) + (if b = true then 4 else 0) = nI c ∧ (if w = 0 then (0 : Int32) else 2) + (if b = true then 4 else 0) + 1 = nI (c + 1) := by
  by_cases e : w = 0
  · rw [if_pos e]
    cases b
    · exact ⟨0, by decide, by decide, by decide⟩
    · exact ⟨4, by decide, by decide, by decide⟩
  · rw [if_neg e]
    cases b
    · exact ⟨2, by decide, by decide, by decide⟩
    · exact ⟨6, by decide, by decide, by decide⟩
theorem zl_F {lc lr : List Nat} {σ σ' τ τ' : xs_S} (h : zl_L σ τ) (hF : zF lc lr σ σ' τ τ') (h1 : 1 ∉ lc) (h3 : 3 ∉ lc) (h11 : 11 ∉ lc) (h20 : 20 ∉ lr) (hM : zm_M σ' τ') (hr : τ' 18 9 = -1) : zl_L σ' τ' := by
  refine ⟨zg_F h.1 hF h1 h11, hM, hr, ?_⟩
  rw [hF.1 3 h3, hF.2.1 20 h20]
  exact h.2.2.2
theorem sv_locate {a ring w s : Int32} {σ τ : xs_S} (hL : zl_L σ τ) (hr : s = 0 ∧ ring = τ 20 21 ∨ s = 1 ∧ ring = 0) : zz_Z (fm_locate a ring w σ) (fy_located a w s τ) (fun p σ' r => r.1 = p ∧ zl_L σ' r.2 ∧ zF [2, 12] [18, 19] σ σ' τ r.2 ∧ ¬ p < 0) (fun σ' r => zx_X σ' r.2 ∧ zF [2, 12] [18, 19] σ σ' τ r.2) := by
  have hL0 := hL
  obtain ⟨hG, ⟨hm, hb, hf⟩, hr9, hd, hd31, hring⟩ := hL
  unfold fm_locate fy_located
  refine zz_lc (fun v1 e1 => ?_)
  refine zz_lr (fun w1 f1 => ?_)
  obtain rfl : v1 = w1 := e1.trans f1.symm
  by_cases hp : τ 18 1 = 0
  · rw [if_pos (hG.1.trans hp), if_pos hp]
    exact zz_s ⟨rfl, hL0, zF_r, lo_v1 e1⟩
  rw [if_neg (fun q => hp (hG.1.symm.trans q)), if_neg hp]
  refine zz_lc (fun v3 e3 => ?_)
  refine zz_lr (fun w3 f3 => ?_)
  obtain rfl : v3 = w3 := e3.trans f3.symm
  rw [← hd]
  refine zz_lc (fun v4 e4 => ?_)
  refine zz_lr (fun w4 f4 => ?_)
  obtain rfl : v4 = w4 := e4.trans f4.symm
  unfold fm_frameAt
  rw [← hm]
  have ho : ∃ b : Bool, (if s = 0 then (if τ 20 21 = (3 : Int32) then (1 : Int32) else 0) else 0) = (if b = true then 1 else 0) ∧ (ring = 3 ↔ b = true) := by
    rcases hr with ⟨rfl, rfl⟩ | ⟨rfl, rfl⟩
    · by_cases e : τ 20 21 = 3
      · exact ⟨true, by rw [if_pos rfl, if_pos e, if_pos rfl], by simp [e]⟩
      · exact ⟨false, by rw [if_pos rfl, if_neg e, if_neg (by decide)], by simp [e]⟩
    · exact ⟨false, by rw [if_neg (by decide), if_neg (by decide)], by decide⟩
  obtain ⟨bo, ho1, ho2⟩ := ho
  rw [ho1]
  refine zz_lr (fun o5 g5 => ?_)
  have hob : (o5 = 0) = (bo = false) := by
    rw [g5]
    cases bo <;> simp
  refine zz_lr (fun c6 g6 => ?_)
  refine zz_lr (fun t7 g7 => ?_)
  refine zz_lc (fun v5 e5 => ?_)
  refine zz_lr (fun l8 g8 => ?_)
  obtain rfl : v5 = l8 := e5.trans g8.symm
  refine zz_lr (fun t9 g9 => ?_)
  refine zz_lc (fun v6 e6 => ?_)
  refine zz_lr (fun b10 g10 => ?_)
  obtain rfl : v6 = b10 := e6.trans g10.symm
  refine zz_lr (fun b11 g11 => ?_)
  refine zz_lc (fun v7 e7 => ?_)
  refine zz_lc (fun v8 e8 => ?_)
  refine zz_lc (fun v9 e9 => ?_)
  have hz : jr_R v6 255 := by rw [e6]; exact bt_jand (hb _) (hb _)
  have hT := bt_both (hb v4.toNatClampNeg) (hb v5.toNatClampNeg)
  rw [← e6, ← g7, ← g9] at hT
  have h11 : (ring = 3) = (bo = true) := propext ho2
  have hcode : (if w = 0 then (0 : Int32) else 2) + (if ring = 3 then (4 : Int32) else 0) = (if w = 0 then (0 : Int32) else 2) + (if bo = true then (4 : Int32) else 0) := by
    cases bo <;> simp [h11]
  rw [hcode]
  have hc6 : c6 = (if w = 0 then (0 : Int32) else 2) + (if bo = true then (4 : Int32) else 0) := by
    rw [g6]
    cases bo <;> simp [hob]
  obtain ⟨cd, hcd, hcd1, hcd2⟩ := bt_code w bo
  have h99 : v9 = b11 ∧ (v9 = 0 ∨ v9 = 1) := by
    rw [e9, g11, e7]
    obtain ⟨q1, q2⟩ := bt_bar (w := w) hz
    cases bo
    · simp [hob, h11]
    · simp only [hob, h11]
      exact ⟨q1, q2⟩
  have hraise : ∀ c c' : Int32, (∃ k : Nat, k < 65536 ∧ c = nI k) → zx_X (xu_u (xu_u (xu_u σ 2 2 v1) 2 0 14) 2 1 c) (fy_raise 14 c (xu_u τ 18 7 v1)) ∧ zF [2, 12] [18, 19] σ (xu_u (xu_u (xu_u σ 2 2 v1) 2 0 14) 2 1 c) τ (fy_raise 14 c (xu_u τ 18 7 v1)) := by
    intro c c' hc
    obtain ⟨k, hk, ek⟩ := hc
    have hF : zF [2, 12] [18, 19] σ (xu_u σ 2 2 v1) τ (xu_u τ 18 7 v1) := ⟨zf_u zf_r (by decide), zf_u zf_r (by decide), zk_7 zk_r⟩
    obtain ⟨q1, q2⟩ := zx_r (σ := xu_u σ 2 2 v1) (τ := xu_u τ 18 7 v1) (v := 14) (c := k) (v' := 14) (c' := c) (zg_F hG hF (by decide) (by decide)) ⟨hm, hb, rfl⟩ hr9 (by decide) (by decide) hk (by decide) ek
    exact ⟨q1, zF_t hF q2⟩
  rcases hT with ⟨hv6, ht9⟩ | ⟨hv6, ht9⟩
  · have h8 : v8 = 1 := by rw [e8, if_pos hv6]
    rw [if_pos ht9, h8, if_neg (by decide)]
    refine zz_lc (fun s10 e10 => ?_)
    refine zz_lc (fun v11 e11 => ?_)
    refine zz_n (by decide) ?_
    rw [e10, e11, hc6]
    exact hraise _ 0 ⟨cd, by omega, hcd1⟩
  · have h8 : v8 = 0 := by rw [e8, if_neg hv6]
    rw [if_neg (show ¬ t9 = 0 by rw [ht9]; decide), h8, if_pos rfl, ← h99.1]
    rcases h99.2 with h9 | h9
    · rw [h9, if_pos rfl, if_pos rfl]
      refine zz_lc (fun s10 e10 => ?_)
      refine zz_lc (fun v11 e11 => ?_)
      refine zz_p rfl (zz_p rfl ?_)
      rw [e10]
      obtain ⟨q1, q2⟩ := bt_or (w := w) (hb v4.toNatClampNeg)
      have r1 : xu_u σ 12 v4.toNatClampNeg (σ 12 v4.toNatClampNeg ||| 32) 12 = xu_u τ 19 v4.toNatClampNeg (σ 12 v4.toNatClampNeg ||| 32) 19 := bt_row hm
      refine zz_lc (fun s16 e16 => ?_)
      refine zz_lr (fun t16 g16 => ?_)
      have r2 : s16 12 = t16 19 := by rw [e16, g16]; exact r1
      have b2 : ∀ a, jr_R (s16 12 a) 255 := by rw [e16]; exact bt_rng hb q1
      have F2 : zF [2, 12] [18, 19] σ s16 τ t16 := by rw [e16, g16]; exact ⟨zf_u zf_r (by decide), zf_u zf_r (by decide), zk_c zk_r (by decide)⟩
      have x2 : s16 2 2 = σ 2 2 ∧ t16 18 7 = τ 18 7 ∧ t16 18 9 = τ 18 9 := by rw [e16, g16]; exact ⟨rfl, rfl, rfl⟩
      rw [← r2]
      have q3 := (bt_or (w := w) (b2 v5.toNatClampNeg)).2
      refine zz_lc (fun s17 e17 => ?_)
      refine zz_lr (fun t17 g17 => ?_)
      have r3 : s17 12 = t17 19 := by rw [e17, g17]; exact bt_row r2
      have b3 : ∀ a, jr_R (s17 12 a) 255 := by rw [e17]; exact bt_rng b2 q3
      have F3 : zF [2, 12] [18, 19] σ s17 τ t17 := by rw [e17, g17]; exact ⟨zf_u F2.1 (by decide), zf_u F2.2.1 (by decide), zk_c F2.2.2 (by decide)⟩
      have x3 : s17 2 2 = σ 2 2 ∧ t17 18 7 = τ 18 7 ∧ t17 18 9 = τ 18 9 := by rw [e17, g17]; exact x2
      exact zz_s ⟨by rw [r3], zl_F hL0 F3 (by decide) (by decide) (by decide) (by decide) ⟨r3, b3, (x3.1.trans hf).trans x3.2.1.symm⟩ (x3.2.2.trans hr9), F3, lo_re e1⟩
    · rw [h9, if_neg (show ¬ (1 : Int32) = 0 by decide), if_neg (show ¬ (1 : Int32) = 0 by decide)]
      refine zz_lc (fun s10 e10 => ?_)
      refine zz_lc (fun v11 e11 => ?_)
      refine zz_p rfl (zz_n (by decide) ?_)
      rw [e10, e11, hc6]
      exact hraise _ 0 ⟨cd + 1, by omega, hcd2⟩
