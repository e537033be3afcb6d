/-! Ranges of the places that the walks reach for. -/
theorem ar_mask (x : Int32) : ∃ q : Nat, q < 4096 ∧ x &&& 4095 = nI q := pk_andE x 12 (by decide)
theorem ar_31 (x : Int32) : ∃ q : Nat, q < 32 ∧ x &&& 31 = nI q := pk_andE x 5 (by decide)
theorem ar_64 : (64 : Int32) = nI 64 := by decide
theorem ar_16 : (16 : Int32) = nI 16 := by decide
theorem ar_2 : (2 : Int32) = nI 2 := by decide
theorem ar_1 : (1 : Int32) = nI 1 := by decide
theorem jr_nat {x : Int32} {m : Nat} (hm : m < 2 ^ 31) (h : jr_R x m) : ∃ j : Nat, j ≤ m ∧ x = nI j := by
  refine ⟨x.toInt.toNat, by have := h.1; have := h.2; omega, ?_⟩
  apply Int32.toInt_inj.mp
  rw [nI_toInt (by have := h.1; have := h.2; omega)]
  have := h.1
  omega
theorem nn_I {j : Nat} (h : j < 2 ^ 31) : ¬ nI j < 0 := nI_pos h
theorem lo_up {a d v1 v3 v4 : Int32} (hd : jr_R d 31) (e1 : v1 = a &&& 4095) (e3 : v3 = v1 / 64) (e4 : v4 = 64 * d + 2 * (v3 / 16)) : vp_in v4 2048 ∧ vp_in (v4 + 1) 2048 := by
  obtain ⟨q, hq, hq2⟩ := ar_mask a
  obtain ⟨j, hj, hj2⟩ := jr_nat (m := 31) (by decide) hd
  rw [hq2] at e1
  rw [e1, ar_64, pk_div (by omega) (by decide) (by decide)] at e3
  rw [e3, hj2, ar_64, ar_16, ar_2, pk_div (by omega) (by decide) (by decide), pk_mul, pk_mul, nI_add] at e4
  rw [e4, ar_1, nI_add]
  have h1 : q / 64 / 16 ≤ 3 := by omega
  exact ⟨vp_in_nI (by omega) (by decide), vp_in_nI (by omega) (by decide)⟩
theorem lo_dn {a b v1 v3 v5 : Int32} (e1 : v1 = a &&& 4095) (e3 : v3 = v1 / 64) (e5 : v5 = 64 * (b &&& 31) + 2 * (v3 - v3 / 16 * 16)) : vp_in v5 2048 ∧ vp_in (v5 + 1) 2048 := by
  obtain ⟨q, hq, hq2⟩ := ar_mask a
  obtain ⟨j, hj, hj2⟩ := ar_31 b
  rw [hq2] at e1
  rw [e1, ar_64, pk_div (by omega) (by decide) (by decide)] at e3
  rw [e3, hj2, ar_64, ar_16, ar_2, pk_rem (by omega) (by decide) (by decide), pk_mul, pk_mul, nI_add] at e5
  rw [e5, ar_1, nI_add]
  have h1 : q / 64 % 16 ≤ 15 := by omega
  exact ⟨vp_in_nI (by omega) (by decide), vp_in_nI (by omega) (by decide)⟩
theorem lo_v1 {a v1 : Int32} (e1 : v1 = a &&& 4095) : ¬ v1 < 0 := by
  obtain ⟨q, hq, hq2⟩ := ar_mask a
  rw [e1, hq2]
  exact nn_I (by omega)
theorem lo_re {a b v1 : Int32} (e1 : v1 = a &&& 4095) : ¬ 64 * (b &&& 31) + (v1 - v1 / 64 * 64) < 0 := by
  obtain ⟨q, hq, hq2⟩ := ar_mask a
  obtain ⟨j, hj, hj2⟩ := ar_31 b
  rw [e1, hq2, hj2, ar_64, pk_rem (by omega) (by decide) (by decide), pk_mul, nI_add]
  exact nn_I (by omega)
theorem ar_add {x y : Int32} {m : Int} (h1 : 0 ≤ x.toInt) (h2 : 0 ≤ y.toInt) (h3 : x.toInt + y.toInt < 2147483648) : (x + y).toInt = x.toInt + y.toInt := Jvm.Kit.i32_add (by omega) (by omega)
theorem ar_nn {x : Int32} : ¬ x < 0 ↔ 0 ≤ x.toInt := by
  rw [Int32.lt_iff_toInt_lt]
  have : (0 : Int32).toInt = 0 := by decide
  omega
theorem ad_nn {a i : Int32} (h0 : ¬ a < 0) (h : ¬ (2048 : Int32) ≤ a) (hi : 0 ≤ i.toInt ∧ i.toInt ≤ 7) : ¬ a + i < 0 := by
  rw [ar_nn] at h0 ⊢
  rw [Int32.le_iff_toInt_le] at h
  have e : (2048 : Int32).toInt = 2048 := by decide
  rw [ar_add (m := 0) h0 hi.1 (by omega)]
  omega
theorem vi_p {a : Int32} (h0 : ¬ a < 0) (h : a ≤ (2047 : Int32)) : vp_in a 2048 := by
  rw [ar_nn] at h0
  rw [Int32.le_iff_toInt_le] at h
  have e : (2047 : Int32).toInt = 2047 := by decide
  rw [vp_in_iff]
  omega
theorem vi_q {a : Int32} (h0 : ¬ a < 0) (h : ¬ (2047 : Int32) < a) : vp_in a 2048 := by
  rw [ar_nn] at h0
  rw [Int32.lt_iff_toInt_lt] at h
  have e : (2047 : Int32).toInt = 2047 := by decide
  rw [vp_in_iff]
  omega
theorem vi_f {a i : Int32} (h0 : ¬ a < 0) (h : ¬ (2040 : Int32) < a) (hi : 0 ≤ i.toInt ∧ i.toInt ≤ 7) : vp_in (a + i) 2048 := by
  rw [ar_nn] at h0
  rw [Int32.lt_iff_toInt_lt] at h
  have e : (2040 : Int32).toInt = 2040 := by decide
  rw [vp_in_iff, ar_add (m := 0) h0 hi.1 (by omega)]
  omega
theorem vs_2 {a : Int32} (h0 : ¬ a < 0) (h : a ≤ (2 : Int32)) : vp_in a 3 := by
  rw [ar_nn] at h0
  rw [Int32.le_iff_toInt_le] at h
  have e : (2 : Int32).toInt = 2 := by decide
  rw [vp_in_iff]
  omega
theorem vs_3 {a : Int32} (h0 : ¬ a < 0) (h : ¬ (2 : Int32) < a) : vp_in a 3 := by
  rw [ar_nn] at h0
  rw [Int32.lt_iff_toInt_lt] at h
  have e : (2 : Int32).toInt = 2 := by decide
  rw [vp_in_iff]
  omega
theorem vs_0 {a : Int32} (h : vp_in a 3) : vp_in a 26 := by
  rw [vp_in_iff] at h ⊢
  omega
theorem vs_k {a k : Int32} (h : vp_in a 3) (hk : 0 ≤ k.toInt ∧ k.toInt ≤ 20) : vp_in (k + a) 26 := by
  rw [vp_in_iff] at h ⊢
  rw [ar_add (m := 0) hk.1 h.1 (by omega)]
  omega
theorem cl_lt {x : Int32} {n : Nat} (h : vp_in x n) : x.toNatClampNeg < n := Nat.not_le.mp fun q => h (Or.inr q)
theorem vs_n {a k : Int32} (h : vp_in a 3) (hk : 0 ≤ k.toInt ∧ k.toInt ≤ 15) : (k + a).toNatClampNeg < 24 := by
  refine cl_lt (n := 24) ?_
  rw [vp_in_iff] at h ⊢
  rw [ar_add (m := 0) hk.1 h.1 (by omega)]
  omega
theorem vs_m {a : Int32} (h : vp_in a 3) : a.toNatClampNeg < 24 := Nat.lt_of_lt_of_le (cl_lt h) (by decide)
theorem vr_1 {a : Int32} (h0 : ¬ a < 0) (h : ¬ (3 : Int32) ≤ a) : vp_in a 26 := by
  rw [ar_nn] at h0
  rw [Int32.le_iff_toInt_le] at h
  have e : (3 : Int32).toInt = 3 := by decide
  rw [vp_in_iff]
  omega
theorem vr_2 {a : Int32} (h3 : (3 : Int32) ≤ a) (h : ¬ (10 : Int32) ≤ a) : vp_in (18 + a - 3) 26 := by
  rw [Int32.le_iff_toInt_le] at h h3
  have e : (10 : Int32).toInt = 10 := by decide
  have e3 : (3 : Int32).toInt = 3 := by decide
  have e18 : (18 : Int32).toInt = 18 := by decide
  rw [vp_in_iff]
  have h4 : (18 + a).toInt = 18 + a.toInt := by rw [ar_add (m := 0) (by omega) (by omega) (by omega), e18]
  have h5 : (18 + a - 3).toInt = (18 + a).toInt - 3 := by rw [Jvm.Kit.i32_sub (by omega) (by omega), e3]
  rw [h5, h4]
  omega
theorem vr_3 {a b : Int32} (ha : vp_in a 3) (h0 : ¬ b < 0) (h : b ≤ (3 : Int32)) : vp_in (6 + 3 * b + a) 26 := by
  rw [ar_nn] at h0
  rw [Int32.le_iff_toInt_le] at h
  have e : (3 : Int32).toInt = 3 := by decide
  have e6 : (6 : Int32).toInt = 6 := by decide
  obtain ⟨j, hj, rfl⟩ : ∃ j : Nat, j ≤ 3 ∧ b = nI j := jr_nat (m := 3) (by decide) ⟨h0, by omega⟩
  obtain ⟨i, hi, rfl⟩ := vp_in_of ha (by decide)
  rw [show (6 : Int32) = nI 6 by decide, show (3 : Int32) = nI 3 by decide, pk_mul, nI_add, nI_add]
  exact vp_in_nI (by omega) (by decide)
section XV
/-- of an answer, where there is one -/
def xv_V (Q : Int32 → Prop) (r : xp_P Int32) : Prop := ∀ b s, r = (some b, s) → Q b
variable {Q : Int32 → Prop}
theorem xv_l {α : Type} {x : α} {f : α → xp_P Int32} (k : ∀ y, y = x → xv_V Q (f y)) : xv_V Q (xl_l x f) := k x rfl
theorem xv_f {c : Prop} [Decidable c] {A B : xp_P Int32} (ht : c → xv_V Q A) (hf : ¬ c → xv_V Q B) : xv_V Q (if c then A else B) := by
  by_cases h : c
  · rw [if_pos h]; exact ht h
  · rw [if_neg h]; exact hf h
theorem xv_b {α : Type} {r : xp_P α} {f : α → xs_S → xp_P Int32} (k : ∀ a σ1, xv_V Q (f a σ1)) : xv_V Q (xp_b r f) := by
  obtain ⟨o, σ1⟩ := r
  cases o with
  | none => intro b s h; cases h
  | some a => exact k a σ1
theorem xv_r {v : Int32} {σ : xs_S} (h : Q v) : xv_V Q (some v, σ) := fun b s e => by cases e; exact h
theorem xq_l {α : Type} {x : α} {f : α → Int32 × xs_S} (k : ∀ y, y = x → Q (f y).1) : Q (xl_l x f).1 := k x rfl
theorem xq_f {c : Prop} [Decidable c] {A B : Int32 × xs_S} (ht : c → Q A.1) (hf : ¬ c → Q B.1) : Q (if c then A else B).1 := by
  by_cases h : c
  · rw [if_pos h]; exact ht h
  · rw [if_neg h]; exact hf h
end XV
