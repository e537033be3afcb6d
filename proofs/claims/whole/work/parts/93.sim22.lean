/-! The calls that are no instructions. -/
variable {σ τ : xs_S}
def zO (σ τ : xs_S) (rc rr : Int32 × xs_S) : Prop := rc.1 = rr.1 ∧ zN rc.2 rr.2 ∧ zX σ rc.2 τ rr.2
theorem zO_0 {v : Int32} (h : zN σ τ) : zO σ τ (v, σ) (v, τ) := ⟨rfl, h, zX_r⟩
theorem zN_b {k : Nat} {v : Int32} (h : zN σ τ) (hv : jr_R v 255) : zN (xu_u σ 12 k v) (xu_u τ 19 k v) := by
  obtain ⟨a, ⟨m1, m2, m3⟩, b⟩ := h
  exact ⟨a, ⟨bt_row m1, bt_rng m2 hv, m3⟩, b⟩
theorem jm_255 (x : Int32) : jr_R (x &&& 255) 255 := by
  obtain ⟨q, hq, e⟩ := jm_b x
  rw [e]
  exact bt_j (n := q) (m := 255) (by omega) (by decide)
theorem ci_1 {a : Int32} : a < (2048 : Int32) ↔ a ≤ (2047 : Int32) := by
  rw [Int32.lt_iff_toInt_lt, Int32.le_iff_toInt_le]
  have e1 : (2048 : Int32).toInt = 2048 := by decide
  have e2 : (2047 : Int32).toInt = 2047 := by decide
  omega
theorem ci_2 {a : Int32} : ¬ (2048 : Int32) ≤ a ↔ a ≤ (2047 : Int32) := by
  rw [Int32.le_iff_toInt_le, Int32.le_iff_toInt_le]
  have e1 : (2048 : Int32).toInt = 2048 := by decide
  have e2 : (2047 : Int32).toInt = 2047 := by decide
  omega
theorem sm_peek {a : Int32} (h : zN σ τ) : fr_peek a σ = fy_peek a τ := by
  unfold fr_peek fy_peek fm_at
  by_cases c : a < 0
  · rw [if_pos c, if_pos c]
  · rw [if_neg c, if_neg c]
    by_cases d : a ≤ 2047
    · rw [if_pos (ci_1.mpr d), if_pos d, if_neg (ci_2.mpr d), h.2.1.1]
    · rw [if_neg (fun z => d (ci_1.mp z)), if_neg d]
theorem sm_poke {a v : Int32} (h : zN σ τ) : zO σ τ (fr_poke a v σ) (fy_poke a v τ) := by
  unfold fr_poke fy_poke fm_put
  by_cases c : a < 0
  · rw [if_pos c, if_pos c]
    exact zO_0 h
  · rw [if_neg c, if_neg c]
    by_cases d : a ≤ 2047
    · rw [if_pos (ci_1.mpr d), if_pos d, if_neg (ci_2.mpr d), xl_e, xl_e, xl_e]
      exact ⟨rfl, zN_b h (jm_255 v), zf_u zf_r (by decide), zf_u zf_r (by decide)⟩
    · rw [if_neg (fun z => d (ci_1.mp z)), if_neg d]
      exact zO_0 h
theorem el_ar (x s : Int64) (j : Nat) (hs : (s.toBitVec.smod 64).toNat = j) (hj : j ≤ 56) : ((x >>> s) &&& (255 : Int64)).toInt32 = nI (x.toBitVec.toNat / 2 ^ j % 2 ^ 8) := by
  have h : ((x >>> s) &&& (255 : Int64)).toBitVec.toNat = x.toBitVec.toNat / 2 ^ j % 2 ^ 8 := by
    rw [Int64.toBitVec_and, BitVec.toNat_and, Int64.toBitVec_shiftRight, BitVec.sshiftRight_eq', hs]
    have e : (255 : Int64).toBitVec.toNat = 2 ^ 8 - 1 := by decide
    rw [e, Nat.and_two_pow_sub_one_eq_mod]
    apply Nat.eq_of_testBit_eq
    intro i
    rw [Nat.testBit_mod_two_pow, Nat.testBit_mod_two_pow]
    by_cases hi : i < 8
    · have e1 : (x.toBitVec.sshiftRight j).toNat.testBit i = (x.toBitVec.sshiftRight j).getLsbD i := rfl
      rw [e1, BitVec.getLsbD_sshiftRight, if_pos (by omega), ← Nat.shiftRight_eq_div_pow, Nat.testBit_shiftRight]
      simp only [hi, show ¬ 64 ≤ i by omega, decide_true, decide_false, Bool.not_false, Bool.true_and]
      rfl
    · simp [hi]
  have g := el_i ((x >>> s) &&& (255 : Int64)) (m := -1) 32 (by decide) (by decide)
  rw [Int32.and_neg_one, h] at g
  rw [g]
  congr 1
  exact Nat.mod_eq_of_lt (Nat.lt_of_lt_of_le (Nat.mod_lt _ (by decide)) (by decide))
theorem el_f (x s : Int64) (u : UInt64) (j : Nat) (hu : u.toNat % 64 = j) (hs : (s.toBitVec.smod 64).toNat = j) (hj : j ≤ 56) : (((x.toUInt64 >>> u).toInt64).toInt32) &&& (255 : Int32) = ((x >>> s) &&& (255 : Int64)).toInt32 := by
  rw [el_iu x u j 8 hu (by decide) (by decide), el_ar x s j hs hj]
theorem sf_x {a i v w : Int32} {f g : xs_S → Int32 × xs_S} {σ0 τ0 : xs_S} (h : zN σ τ ∧ zX σ0 σ τ0 τ) (ha : ¬ (2048 : Int32) ≤ a + i) (e : v &&& 255 = w) (k : ∀ σ' τ', zN σ' τ' ∧ zX σ0 σ' τ0 τ' → zO σ0 τ0 (f σ') (g τ')) : zO σ0 τ0 (xl_l (fm_put (a + i) v σ) f) (xl_l (xu_u τ 19 (a + i).toNatClampNeg w) g) := by
  rw [xl_e, xl_e]
  unfold fm_put
  rw [if_neg ha, xl_e, e]
  exact k _ _ ⟨zN_b h.1 (e ▸ jm_255 v), zf_u h.2.1 (by decide), zf_u h.2.2 (by decide)⟩
theorem cf_i {a i : Int32} (h0 : ¬ a < 0) (h : ¬ (2040 : Int32) < a) (hi : 0 ≤ i.toInt ∧ i.toInt ≤ 7) : ¬ (2048 : Int32) ≤ a + i := by
  rw [ar_nn] at h0
  rw [Int32.lt_iff_toInt_lt] at h
  rw [Int32.le_iff_toInt_le]
  have e : (2040 : Int32).toInt = 2040 := by decide
  have e2 : (2048 : Int32).toInt = 2048 := by decide
  rw [ar_add (m := 0) h0 hi.1 (by omega)]
  omega
theorem cf_8 {a : Int32} (h0 : ¬ a < 0) (h1 : ¬ (2048 : Int32) ≤ a) (h2 : (2040 : Int32) < a) : ¬ (a - a / (8 : Int32) * (8 : Int32)) = 0 := by
  rw [ar_nn] at h0
  rw [Int32.lt_iff_toInt_lt] at h2
  rw [Int32.le_iff_toInt_le] at h1
  have e : (2040 : Int32).toInt = 2040 := by decide
  have e2 : (2048 : Int32).toInt = 2048 := by decide
  obtain ⟨n, hn, rfl⟩ : ∃ n : Nat, n ≤ 2047 ∧ a = nI n := jr_nat (m := 2047) (by decide) ⟨h0, by omega⟩
  rw [nI_toInt (by omega)] at h2
  rw [show (8 : Int32) = nI 8 by decide, pk_rem (by omega) (by decide) (by decide)]
  intro z
  have z2 := congrArg Int32.toInt z
  rw [nI_toInt (by omega)] at z2
  have z3 : (0 : Int32).toInt = 0 := by decide
  omega
theorem sm_fill {a : Int32} {v : Int64} (h : zN σ τ) : zO σ τ (fr_fill a v σ) (fy_fill a v τ) := by
  unfold fr_fill fy_fill
  by_cases c1 : a < 0
  · rw [if_pos c1, if_pos c1]
    exact zO_0 h
  rw [if_neg c1, if_neg c1]
  by_cases c2 : (2048 : Int32) ≤ a
  · have c3 : (2040 : Int32) < a := by
      rw [Int32.le_iff_toInt_le] at c2
      rw [Int32.lt_iff_toInt_lt]
      have e : (2040 : Int32).toInt = 2040 := by decide
      have e2 : (2048 : Int32).toInt = 2048 := by decide
      omega
    rw [if_pos c2, if_pos c3]
    exact zO_0 h
  rw [if_neg c2]
  by_cases c3 : (2040 : Int32) < a
  · rw [if_pos c3, if_neg (cf_8 c1 c2 c3)]
    exact zO_0 h
  rw [if_neg c3]
  by_cases c4 : (a - a / (8 : Int32) * (8 : Int32)) = 0
  · rw [if_pos c4, if_pos c4]
    refine sf_x ⟨h, zX_r⟩ (cf_i c1 c3 (by decide)) (el_f _ _ _ 0 (by decide) (by decide) (by decide)) (fun σ1 τ1 h => ?_)
    refine sf_x h (cf_i c1 c3 (by decide)) (el_f _ _ _ 8 (by decide) (by decide) (by decide)) (fun σ1 τ1 h => ?_)
    refine sf_x h (cf_i c1 c3 (by decide)) (el_f _ _ _ 16 (by decide) (by decide) (by decide)) (fun σ1 τ1 h => ?_)
    refine sf_x h (cf_i c1 c3 (by decide)) (el_f _ _ _ 24 (by decide) (by decide) (by decide)) (fun σ1 τ1 h => ?_)
    refine sf_x h (cf_i c1 c3 (by decide)) (el_f _ _ _ 32 (by decide) (by decide) (by decide)) (fun σ1 τ1 h => ?_)
    refine sf_x h (cf_i c1 c3 (by decide)) (el_f _ _ _ 40 (by decide) (by decide) (by decide)) (fun σ1 τ1 h => ?_)
    refine sf_x h (cf_i c1 c3 (by decide)) (el_f _ _ _ 48 (by decide) (by decide) (by decide)) (fun σ1 τ1 h => ?_)
    refine sf_x h (cf_i c1 c3 (by decide)) (el_f _ _ _ 56 (by decide) (by decide) (by decide)) (fun σ1 τ1 h => ?_)
    exact ⟨rfl, h.1, h.2⟩
  · rw [if_neg c4, if_neg c4]
    exact zO_0 h
theorem zO_d {A B : Int32 × xs_S} (h : zN σ τ) (k : zO σ τ A B) : zO σ τ (if (σ 1 12) = 0 then A else ((0 : Int32), σ)) (if (τ 18 8) = 0 then B else ((0 : Int32), τ)) := by
  have e := h.1.2.2.2.2
  by_cases c : σ 1 12 = 0
  · rw [if_pos c, if_pos (e.symm.trans c)]
    exact k
  · rw [if_neg c, if_neg (fun z => c (e.trans z))]
    exact zO_0 h
theorem sm_tables {a b c : Int32} (h : zN σ τ) : zO σ τ (fr_tables a b c σ) (fy_tables a b c τ) := by
  unfold fr_tables fy_tables
  refine zO_d h ?_
  by_cases c1 : b < 0
  · rw [if_pos c1, if_pos c1]
    exact zO_0 h
  rw [if_neg c1, if_neg c1]
  by_cases c2 : b ≤ 32
  · rw [if_pos c2, if_pos c2, xl_e, xl_e, xl_e, xl_e, xl_e, xl_e]
    obtain ⟨⟨g1, _, _, _, g5⟩, m, r⟩ := h
    exact ⟨rfl, ⟨⟨g1, rfl, rfl, rfl, g5⟩, m, r⟩, zf_u (zf_u (zf_u zf_r (by decide)) (by decide)) (by decide), zf_u (zf_u (zf_u zf_r (by decide)) (by decide)) (by decide)⟩
  · rw [if_neg c2, if_neg c2]
    exact zO_0 h
theorem sm_pages {a b : Int32} (h : zN σ τ) : zO σ τ (fr_pages a b σ) (fy_pages a b τ) := by
  unfold fr_pages fy_pages
  refine zO_d h ?_
  rw [xl_e, xl_e, xl_e, xl_e]
  obtain ⟨⟨_, g⟩, m, ⟨a0, a1, a2, a3, a4, a5, a6, a7, a8, _, a10⟩, f⟩ := h
  have j : jr_R (a &&& 31) 31 := by
    obtain ⟨q, hq, e⟩ := ar_31 a
    rw [e]
    exact bt_j (n := q) (m := 31) (by omega) (by decide)
  exact ⟨rfl, ⟨⟨rfl, g⟩, m, ⟨a0, a1, a2, a3, a4, a5, a6, a7, a8, ⟨rfl, j⟩, a10⟩, f⟩, zf_u (zf_u zf_r (by decide)) (by decide), zf_u (zf_u zf_r (by decide)) (by decide)⟩
theorem ig_n {a : Int32} {m : Nat} {k : Int32} (hm : m < 2 ^ 31) (hk : k.toInt = m) (h0 : ¬ a < 0) (h : a ≤ k) : ∃ j : Nat, j ≤ m ∧ a = nI j := by
  rw [ar_nn] at h0
  rw [Int32.le_iff_toInt_le, hk] at h
  exact jr_nat hm ⟨h0, h⟩
theorem sm_register {a : Int32} (h : zN σ τ) : fr_register a σ = fy_register a τ := by
  by_cases r : ¬ a < 0 ∧ a ≤ (12 : Int32)
  · obtain ⟨j, hj, rfl⟩ := ig_n (m := 12) (by decide) (by decide) r.1 r.2
    have hj2 : j = 0 ∨ j = 1 ∨ j = 2 ∨ j = 3 ∨ j = 4 ∨ j = 5 ∨ j = 6 ∨ j = 7 ∨ j = 8 ∨ j = 9 ∨ j = 10 ∨ j = 11 ∨ j = 12 := by omega
    obtain ⟨⟨_, _, _, _, g⟩, ⟨_, _, m⟩, ⟨a0, a1, a2, a3, a4, a5, a6, a7, a8, a9, a10⟩, f, _⟩ := h
    rcases hj2 with rfl | rfl | rfl | rfl | rfl | rfl | rfl | rfl | rfl | rfl | rfl | rfl | rfl
    · exact a0.1
    · exact a1.1
    · exact a2.1
    · exact a4
    · exact a5
    · exact f
    · exact a6.1
    · exact a7.1
    · exact a8
    · exact a9.1
    · exact m
    · exact a10
    · show (if σ 1 12 = 0 then (0 : Int32) else 1) = (if τ 18 8 = 0 then (0 : Int32) else 1)
      rw [g]
  · have n : ∀ k : Int32, (¬ k < 0 ∧ k ≤ (12 : Int32)) → ¬ a = k := fun k hk z => r (z ▸ hk)
    unfold fr_register fy_register
    rw [if_neg (n 0 (by decide)), if_neg (n 1 (by decide)), if_neg (n 2 (by decide)), if_neg (n 3 (by decide)), if_neg (n 4 (by decide)), if_neg (n 5 (by decide)), if_neg (n 6 (by decide)), if_neg (n 7 (by decide)), if_neg (n 8 (by decide)), if_neg (n 9 (by decide)), if_neg (n 10 (by decide)), if_neg (n 11 (by decide)), if_neg (n 12 (by decide))]
    by_cases c : a < 0
    · rw [if_pos c]
    · rw [if_neg c, if_neg (fun z => r ⟨c, z⟩)]
theorem sg_1 {d q : Nat → Int32} {s : Nat} (h : zs_S d q s) : d 1 = (if q (3 + s) = 1 then 0 else q (6 + s)) ∧ d 2 = (if q (3 + s) = 1 then 0 else q (9 + s)) ∧ d 3 = (if q (3 + s) = 1 then 0 else q (12 + s)) ∧ d 4 = (if q (3 + s) = 1 then 0 else q (15 + s)) := by
  rcases h.2.2 with ⟨e, _, e1, e2, e3, e4⟩ | ⟨e, _, e1, e2, e3, e4⟩
  · rw [if_pos e, if_pos e, if_pos e, if_pos e]
    exact ⟨e1, e2, e3, e4⟩
  · have ne : ¬ q (3 + s) = 1 := by rw [e]; decide
    rw [if_neg ne, if_neg ne, if_neg ne, if_neg ne]
    exact ⟨e1, e2, e3, e4⟩
theorem sm_segment {a b : Int32} (h : zN σ τ) : fr_segment a b σ = fy_segment a b τ := by
  by_cases r : ¬ a < 0 ∧ a ≤ (2 : Int32)
  · have r2 : ¬ (2 : Int32) < a := by
      have := r.2
      rw [Int32.le_iff_toInt_le] at this
      rw [Int32.lt_iff_toInt_lt]
      omega
    by_cases w : ¬ b < 0 ∧ b ≤ (3 : Int32)
    · obtain ⟨j, hj, rfl⟩ := ig_n (m := 2) (by decide) (by decide) r.1 r.2
      obtain ⟨i, hi, rfl⟩ := ig_n (m := 3) (by decide) (by decide) w.1 w.2
      obtain ⟨_, _, ⟨a0, a1, a2, _⟩, _⟩ := h
      have hj2 : j = 0 ∨ j = 1 ∨ j = 2 := by omega
      have hi2 : i = 0 ∨ i = 1 ∨ i = 2 ∨ i = 3 := by omega
      rcases hj2 with rfl | rfl | rfl
      · rcases hi2 with rfl | rfl | rfl | rfl
        · exact (sg_1 a0).1
        · exact (sg_1 a0).2.1
        · exact (sg_1 a0).2.2.1
        · exact (sg_1 a0).2.2.2
      · rcases hi2 with rfl | rfl | rfl | rfl
        · exact (sg_1 a1).1
        · exact (sg_1 a1).2.1
        · exact (sg_1 a1).2.2.1
        · exact (sg_1 a1).2.2.2
      · rcases hi2 with rfl | rfl | rfl | rfl
        · exact (sg_1 a2).1
        · exact (sg_1 a2).2.1
        · exact (sg_1 a2).2.2.1
        · exact (sg_1 a2).2.2.2
    · have n : ∀ k : Int32, (¬ k < 0 ∧ k ≤ (3 : Int32)) → ¬ b = k := fun k hk z => w (z ▸ hk)
      unfold fr_segment fy_segment
      rw [if_neg r.1, if_neg r.1, if_pos r.2, if_neg r2, if_neg (n 0 (by decide)), if_neg (n 1 (by decide)), if_neg (n 2 (by decide)), if_neg (n 3 (by decide))]
      by_cases c : b < 0
      · rw [if_pos c]
      · rw [if_neg c, if_neg (fun z => w ⟨c, z⟩)]
  · unfold fr_segment fy_segment
    by_cases c : a < 0
    · rw [if_pos c, if_pos c]
    · have c2 : ¬ a ≤ (2 : Int32) := fun z => r ⟨c, z⟩
      have c3 : (2 : Int32) < a := by
        rw [Int32.le_iff_toInt_le] at c2
        rw [Int32.lt_iff_toInt_lt]
        omega
      rw [if_neg c, if_neg c, if_neg c2, if_pos c3]
