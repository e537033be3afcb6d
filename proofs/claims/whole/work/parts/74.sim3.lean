/-! A descriptor is read. -/
abbrev zl_R : List Nat := [18, 19, 22, 23, 24, 25, 26, 27, 28]
abbrev zl_B : List Nat := [18, 19, 28]
/-- the other descriptor stays -/
def zi_I (k : Nat) (τ τ' : xs_S) : Prop := ∀ j ∈ [22, 23, 24, 25, 26, 27], ∀ i, i ≠ k → τ' j i = τ j i
theorem zi_t {k : Nat} {τ τ1 τ2 : xs_S} (h1 : zi_I k τ τ1) (h2 : zi_I k τ1 τ2) : zi_I k τ τ2 := fun j hj i hi => (h2 j hj i hi).trans (h1 j hj i hi)
theorem zi_c {k j : Nat} {v : Int32} {τ τ' : xs_S} (h : zi_I k τ τ') : zi_I k τ (xu_u τ' j k v) := fun j' hj i hi => by
  rw [xu_off (fun z => hi z.2)]
  exact h j' hj i hi
def zd_D (d : Nat → Int32) (τ : xs_S) (k : Nat) (sel : Int32) : Prop := d 0 = sel ∧ d 1 = τ 22 k ∧ d 2 = τ 23 k ∧ d 3 = τ 24 k ∧ d 4 = τ 25 k ∧ d 5 = τ 27 k ∧ d 6 = τ 26 k ∧ jr_R (d 2) 65535 ∧ jr_R (d 3) 15 ∧ jr_R (d 4) 3 ∧ jr_R (d 5) 7
def zd_E (V : Int64) (τ : xs_S) (k : Nat) : Prop := ∀ (c : Nat) (sel : Int32) (s : xs_S), zd_D (fd_decode c sel V s c) τ k sel
theorem te_e (a1 : Int32) (σ : xs_S) : fm_eightAt a1 σ = xp_b (fm_byteAt (a1 + (0 : Int32)) (0 : Int32) σ) (fun b0 s0 => xl_l ((0 : Int64) ||| ((b0.toInt64) <<< ((((8 : Int32) * (0 : Int32))).toInt64 &&& 63))) (fun v0 => xp_b (fm_byteAt (a1 + (1 : Int32)) (0 : Int32) s0) (fun b1 s1 => xl_l (v0 ||| ((b1.toInt64) <<< ((((8 : Int32) * (1 : Int32))).toInt64 &&& 63))) (fun v1 => xp_b (fm_byteAt (a1 + (2 : Int32)) (0 : Int32) s1) (fun b2 s2 => xl_l (v1 ||| ((b2.toInt64) <<< ((((8 : Int32) * (2 : Int32))).toInt64 &&& 63))) (fun v2 => xp_b (fm_byteAt (a1 + (3 : Int32)) (0 : Int32) s2) (fun b3 s3 => xl_l (v2 ||| ((b3.toInt64) <<< ((((8 : Int32) * (3 : Int32))).toInt64 &&& 63))) (fun v3 => xp_b (fm_byteAt (a1 + (4 : Int32)) (0 : Int32) s3) (fun b4 s4 => xl_l (v3 ||| ((b4.toInt64) <<< ((((8 : Int32) * (4 : Int32))).toInt64 &&& 63))) (fun v4 => xp_b (fm_byteAt (a1 + (5 : Int32)) (0 : Int32) s4) (fun b5 s5 => xl_l (v4 ||| ((b5.toInt64) <<< ((((8 : Int32) * (5 : Int32))).toInt64 &&& 63))) (fun v5 => xp_b (fm_byteAt (a1 + (6 : Int32)) (0 : Int32) s5) (fun b6 s6 => xl_l (v5 ||| ((b6.toInt64) <<< ((((8 : Int32) * (6 : Int32))).toInt64 &&& 63))) (fun v6 => xp_b (fm_byteAt (a1 + (7 : Int32)) (0 : Int32) s6) (fun b7 s7 => xl_l (v6 ||| ((b7.toInt64) <<< ((((8 : Int32) * (7 : Int32))).toInt64 &&& 63))) (fun v7 => (some v7, s7))))))))))))))))) := by
  unfold fm_eightAt fm_byteAt
  simp only [xp_bb]
  rfl
def ty_8 (a1 : Int32) (a2 : Int32) (s8 : xs_S) : xs_S := xl_l ((xu_u s8 22 (a2).toNatClampNeg ((s8 28 0) + ((256 : Int32) * (s8 28 1))))) (fun s9 => xl_l ((xu_u s9 23 (a2).toNatClampNeg ((s9 28 2) + ((256 : Int32) * (s9 28 3))))) (fun s10 => xl_l ((xu_u s10 24 (a2).toNatClampNeg ((s10 28 4) &&& (15 : Int32)))) (fun s11 => xl_l ((xu_u s11 25 (a2).toNatClampNeg ((s11 28 5) &&& (3 : Int32)))) (fun s12 => xl_l ((xu_u s12 26 (a2).toNatClampNeg ((if ((s12 28 5) &&& (128 : Int32)) = 0 then (0 : Int32) else (1 : Int32)) &&& 1))) (fun s13 => xl_l ((xu_u s13 27 (a2).toNatClampNeg ((s13 28 6) &&& (7 : Int32)))) (fun s14 => s14))))))
def ty_7 (a1 : Int32) (a2 : Int32) (s : xs_S) : xs_S := xl_l ((if (fy_isRaised s) = 0 then (xu_u (fy_readByte (a1 + (7 : Int32)) (1 : Int32) s).2 28 7 (fy_readByte (a1 + (7 : Int32)) (1 : Int32) s).1) else s)) (fun s1 => ty_8 a1 a2 s1)
def ty_6 (a1 : Int32) (a2 : Int32) (s : xs_S) : xs_S := xl_l ((if (fy_isRaised s) = 0 then (xu_u (fy_readByte (a1 + (6 : Int32)) (1 : Int32) s).2 28 6 (fy_readByte (a1 + (6 : Int32)) (1 : Int32) s).1) else s)) (fun s1 => ty_7 a1 a2 s1)
def ty_5 (a1 : Int32) (a2 : Int32) (s : xs_S) : xs_S := xl_l ((if (fy_isRaised s) = 0 then (xu_u (fy_readByte (a1 + (5 : Int32)) (1 : Int32) s).2 28 5 (fy_readByte (a1 + (5 : Int32)) (1 : Int32) s).1) else s)) (fun s1 => ty_6 a1 a2 s1)
def ty_4 (a1 : Int32) (a2 : Int32) (s : xs_S) : xs_S := xl_l ((if (fy_isRaised s) = 0 then (xu_u (fy_readByte (a1 + (4 : Int32)) (1 : Int32) s).2 28 4 (fy_readByte (a1 + (4 : Int32)) (1 : Int32) s).1) else s)) (fun s1 => ty_5 a1 a2 s1)
def ty_3 (a1 : Int32) (a2 : Int32) (s : xs_S) : xs_S := xl_l ((if (fy_isRaised s) = 0 then (xu_u (fy_readByte (a1 + (3 : Int32)) (1 : Int32) s).2 28 3 (fy_readByte (a1 + (3 : Int32)) (1 : Int32) s).1) else s)) (fun s1 => ty_4 a1 a2 s1)
def ty_2 (a1 : Int32) (a2 : Int32) (s : xs_S) : xs_S := xl_l ((if (fy_isRaised s) = 0 then (xu_u (fy_readByte (a1 + (2 : Int32)) (1 : Int32) s).2 28 2 (fy_readByte (a1 + (2 : Int32)) (1 : Int32) s).1) else s)) (fun s1 => ty_3 a1 a2 s1)
def ty_1 (a1 : Int32) (a2 : Int32) (s : xs_S) : xs_S := xl_l ((if (fy_isRaised s) = 0 then (xu_u (fy_readByte (a1 + (1 : Int32)) (1 : Int32) s).2 28 1 (fy_readByte (a1 + (1 : Int32)) (1 : Int32) s).1) else s)) (fun s1 => ty_2 a1 a2 s1)
def ty_0 (a1 : Int32) (a2 : Int32) (s : xs_S) : xs_S := xl_l ((if (fy_isRaised s) = 0 then (xu_u (fy_readByte (a1 + (0 : Int32)) (1 : Int32) s).2 28 0 (fy_readByte (a1 + (0 : Int32)) (1 : Int32) s).1) else s)) (fun s1 => ty_1 a1 a2 s1)
theorem ty_e (a1 a2 : Int32) (τ : xs_S) : fy_readDescriptor a1 a2 τ = ty_0 a1 a2 τ := rfl
theorem xl_e {α β : Type} {x : α} {f : α → β} : xl_l x f = f x := rfl
section TY
variable {a1 a2 : Int32} {s : xs_S}
theorem ty_r8 (_h : ¬ s 18 9 < 0) : ty_8 a1 a2 s = ty_8 a1 a2 s := rfl
theorem ty_r7 (h : ¬ s 18 9 < 0) : ty_7 a1 a2 s = ty_8 a1 a2 s := by
  unfold ty_7
  rw [if_neg (by rw [zi_r h]; decide), xl_e, ty_r8 h]
theorem ty_r6 (h : ¬ s 18 9 < 0) : ty_6 a1 a2 s = ty_8 a1 a2 s := by
  unfold ty_6
  rw [if_neg (by rw [zi_r h]; decide), xl_e, ty_r7 h]
theorem ty_r5 (h : ¬ s 18 9 < 0) : ty_5 a1 a2 s = ty_8 a1 a2 s := by
  unfold ty_5
  rw [if_neg (by rw [zi_r h]; decide), xl_e, ty_r6 h]
theorem ty_r4 (h : ¬ s 18 9 < 0) : ty_4 a1 a2 s = ty_8 a1 a2 s := by
  unfold ty_4
  rw [if_neg (by rw [zi_r h]; decide), xl_e, ty_r5 h]
theorem ty_r3 (h : ¬ s 18 9 < 0) : ty_3 a1 a2 s = ty_8 a1 a2 s := by
  unfold ty_3
  rw [if_neg (by rw [zi_r h]; decide), xl_e, ty_r4 h]
theorem ty_r2 (h : ¬ s 18 9 < 0) : ty_2 a1 a2 s = ty_8 a1 a2 s := by
  unfold ty_2
  rw [if_neg (by rw [zi_r h]; decide), xl_e, ty_r3 h]
theorem ty_r1 (h : ¬ s 18 9 < 0) : ty_1 a1 a2 s = ty_8 a1 a2 s := by
  unfold ty_1
  rw [if_neg (by rw [zi_r h]; decide), xl_e, ty_r2 h]
theorem ty_r0 (h : ¬ s 18 9 < 0) : ty_0 a1 a2 s = ty_8 a1 a2 s := by
  unfold ty_0
  rw [if_neg (by rw [zi_r h]; decide), xl_e, ty_r1 h]
end TY
theorem ty_F {lc : List Nat} {a1 a2 : Int32} {σ σ' τ τ' : xs_S} (h : zF lc zl_B σ σ' τ τ') : zF lc zl_R σ σ' τ (ty_8 a1 a2 τ') := zF_y (zF_y (zF_y (zF_y (zF_y (zF_y (zF_m h (fun i hi => hi) (by decide)) (by decide) (by decide)) (by decide) (by decide)) (by decide) (by decide)) (by decide) (by decide)) (by decide) (by decide)) (by decide) (by decide)
theorem ty_I {lc : List Nat} {a1 a2 : Int32} {σ σ' τ τ' : xs_S} (h : zF lc zl_B σ σ' τ τ') : zi_I a2.toNatClampNeg τ (ty_8 a1 a2 τ') := zi_c (zi_c (zi_c (zi_c (zi_c (zi_c (fun j hj i _ => by rw [h.2.1 j (by simp at hj ⊢; omega)]))))))
theorem ty_L {a1 a2 : Int32} {σ τ : xs_S} (h : zl_L σ τ) : zl_L σ (ty_8 a1 a2 τ) := h
theorem ty_X {a1 a2 : Int32} {σ τ : xs_S} (h : zx_X σ τ) : zx_X σ (ty_8 a1 a2 τ) := h
theorem ty_u {i : Nat} {v : Int32} {σ τ : xs_S} (h : zl_L σ τ) : zl_L σ (xu_u τ 28 i v) := h
theorem ty_v {i : Nat} {v : Int32} {σ τ : xs_S} (h : zx_X σ τ) : zx_X σ (xu_u τ 28 i v) := h
theorem zz_bw {α β γ : Type} {Φ : α → xs_S → β → Prop} {Ψ : xs_S → β → Prop} {rc1 : xp_P γ} {R : Int32 × xs_S} {c i : Nat} {f : γ → xs_S → xp_P α} {g : xs_S → β} {Φ1 : γ → xs_S → xs_S → Prop} {Ψ1 : xs_S → xs_S → Prop} (h : zz_Z rc1 R (fun a σ r => Φ1 a σ (xu_u r.2 c i r.1)) (fun σ r => Ψ1 σ (xu_u r.2 c i r.1))) (k : ∀ a σ1 τ1, Φ1 a σ1 τ1 → zz_Z (f a σ1) (g τ1) Φ Ψ) (k2 : ∀ σ1 τ1, Ψ1 σ1 τ1 → Ψ σ1 (g τ1)) : zz_Z (xp_b rc1 f) (xl_l (xu_u R.2 c i R.1) g) Φ Ψ := by
  obtain ⟨o, σ1⟩ := rc1
  cases o with
  | none => exact zz_f (k2 σ1 _ (h.2 σ1 rfl))
  | some a => exact k a σ1 _ (h.1 a σ1 rfl)
def zt_P (σ0 τ0 τ : xs_S) (i : Nat) (p : Int32) (σ' τ' : xs_S) : Prop := ∃ n : Nat, n < 256 ∧ p = nI n ∧ zl_L σ' τ' ∧ zF [2, 12] zl_B σ0 σ' τ0 τ' ∧ τ' 28 i = nI n ∧ (∀ j, j ≠ i → τ' 28 j = τ 28 j)
def zt_N (σ0 τ0 : xs_S) (σ' τ' : xs_S) : Prop := zx_X σ' τ' ∧ zF [2, 12] zl_B σ0 σ' τ0 τ'
theorem sv_w {σ0 τ0 σ τ : xs_S} {a : Int32} {i : Nat} (hL : zl_L σ τ) (hF : zF [2, 12] zl_B σ0 σ τ0 τ) : zz_Z (fm_byteAt a 0 σ) (fy_readByte a 1 τ) (fun p σ' r => zt_P σ0 τ0 τ i p σ' (xu_u r.2 28 i r.1)) (fun σ' r => zt_N σ0 τ0 σ' (xu_u r.2 28 i r.1)) := by
  refine zz_m (sv_byteAt hL (Or.inr ⟨rfl, rfl⟩)) (fun p σ' h => ?_) (fun σ' h => ?_)
  · obtain ⟨h1, h2, h3, h4⟩ := h
    obtain ⟨n, hn, e⟩ := bt_o h4
    refine ⟨n, hn, e, ty_u h2, zF_y (zF_t hF (zF_m h3 (by decide) (by decide))) (by decide) (by decide), ?_, fun j hj => ?_⟩
    · rw [xu_same, h1, e]
    · rw [xu_off (fun z => hj z.2), h3.2.1 28 (by decide)]
  · exact ⟨ty_v h.1, zF_y (zF_t hF (zF_m h.2 (by decide) (by decide))) (by decide) (by decide)⟩
theorem zd_e (n0 n1 n2 n3 n4 n5 n6 n7 : Nat) (h0 : n0 < 256) (h1 : n1 < 256) (h2 : n2 < 256) (h3 : n3 < 256) (h4 : n4 < 256) (h5 : n5 < 256) (h6 : n6 < 256) (h7 : n7 < 256) : (n0 + 2 ^ 8 * n1 + 2 ^ 16 * n2 + 2 ^ 24 * n3 + 2 ^ 32 * n4 + 2 ^ 40 * n5 + 2 ^ 48 * n6 + 2 ^ 56 * n7) % 2 ^ 16 = n0 + 256 * n1 ∧ (n0 + 2 ^ 8 * n1 + 2 ^ 16 * n2 + 2 ^ 24 * n3 + 2 ^ 32 * n4 + 2 ^ 40 * n5 + 2 ^ 48 * n6 + 2 ^ 56 * n7) / 2 ^ 16 % 2 ^ 16 = n2 + 256 * n3 ∧ (n0 + 2 ^ 8 * n1 + 2 ^ 16 * n2 + 2 ^ 24 * n3 + 2 ^ 32 * n4 + 2 ^ 40 * n5 + 2 ^ 48 * n6 + 2 ^ 56 * n7) / 2 ^ 32 % 2 ^ 4 = n4 % 2 ^ 4 ∧ (n0 + 2 ^ 8 * n1 + 2 ^ 16 * n2 + 2 ^ 24 * n3 + 2 ^ 32 * n4 + 2 ^ 40 * n5 + 2 ^ 48 * n6 + 2 ^ 56 * n7) / 2 ^ 40 % 2 ^ 2 = n5 % 2 ^ 2 ∧ (n0 + 2 ^ 8 * n1 + 2 ^ 16 * n2 + 2 ^ 24 * n3 + 2 ^ 32 * n4 + 2 ^ 40 * n5 + 2 ^ 48 * n6 + 2 ^ 56 * n7) / 2 ^ 47 % 2 = n5 / 128 % 2 ∧ (n0 + 2 ^ 8 * n1 + 2 ^ 16 * n2 + 2 ^ 24 * n3 + 2 ^ 32 * n4 + 2 ^ 40 * n5 + 2 ^ 48 * n6 + 2 ^ 56 * n7) / 2 ^ 48 % 2 ^ 3 = n6 % 2 ^ 3 := by omega
theorem bt_128 : ∀ n, n < 256 → ((nI n &&& 128 = 0) = (n / 128 % 2 = 0)) := by
  have h : ∀ n, n < 256 → ((nI n &&& 128 = 0) ↔ (n / 128 % 2 = 0)) := by decide +kernel
  exact fun n hn => propext (h n hn)
theorem zd_V {V : Int64} {τ : xs_S} {a1 k : Int32} {n0 n1 n2 n3 n4 n5 n6 n7 : Nat} (h0 : n0 < 256) (h1 : n1 < 256) (h2 : n2 < 256) (h3 : n3 < 256) (h4 : n4 < 256) (h5 : n5 < 256) (h6 : n6 < 256) (h7 : n7 < 256) (hV : V.toBitVec.toNat = n0 + 2 ^ 8 * n1 + 2 ^ 16 * n2 + 2 ^ 24 * n3 + 2 ^ 32 * n4 + 2 ^ 40 * n5 + 2 ^ 48 * n6 + 2 ^ 56 * n7) (e0 : τ 28 0 = nI n0) (e1 : τ 28 1 = nI n1) (e2 : τ 28 2 = nI n2) (e3 : τ 28 3 = nI n3) (e4 : τ 28 4 = nI n4) (e5 : τ 28 5 = nI n5) (e6 : τ 28 6 = nI n6) : zd_E V (ty_8 a1 k τ) k.toNatClampNeg := by
  obtain ⟨q1, q2, q3, q4, q5, q6⟩ := zd_e n0 n1 n2 n3 n4 n5 n6 n7 h0 h1 h2 h3 h4 h5 h6 h7
  rw [← hV] at q1 q2 q3 q4 q5 q6
  intro c sel s
  have r1 : ty_8 a1 k τ 22 k.toNatClampNeg = nI (n0 + 256 * n1) := by
    rw [← nI_add, ← pk_mul, ← e0, ← e1]
    simp [ty_8, xl_l, xu_u]
    rfl
  have r2 : ty_8 a1 k τ 23 k.toNatClampNeg = nI (n2 + 256 * n3) := by
    rw [← nI_add, ← pk_mul, ← e2, ← e3]
    simp [ty_8, xl_l, xu_u]
    rfl
  have r3 : ty_8 a1 k τ 24 k.toNatClampNeg = nI (n4 % 2 ^ 4) := by
    rw [← pk_andN (m := 15) (by omega) 4 (by decide), ← e4]
    simp [ty_8, xl_l, xu_u]
  have r4 : ty_8 a1 k τ 25 k.toNatClampNeg = nI (n5 % 2 ^ 2) := by
    rw [← pk_andN (m := 3) (by omega) 2 (by decide), ← e5]
    simp [ty_8, xl_l, xu_u]
  have r5 : ty_8 a1 k τ 26 k.toNatClampNeg = (if n5 / 128 % 2 = 0 then 0 else 1) &&& 1 := by
    have : ty_8 a1 k τ 26 k.toNatClampNeg = (if τ 28 5 &&& 128 = 0 then 0 else 1) &&& 1 := by simp [ty_8, xl_l, xu_u]
    rw [this, e5]
    simp only [bt_128 n5 h5]
  have r6 : ty_8 a1 k τ 27 k.toNatClampNeg = nI (n6 % 2 ^ 3) := by
    rw [← pk_andN (m := 7) (by omega) 3 (by decide), ← e6]
    simp [ty_8, xl_l, xu_u]
  have d0 : fd_decode c sel V s c 0 = sel := by simp [fd_decode, xl_l, xu_u]
  have d1 : fd_decode c sel V s c 1 = V.toInt32 &&& 65535 := by simp [fd_decode, xl_l, xu_u]
  have d2 : fd_decode c sel V s c 2 = (((((V).toUInt64 >>> (((16 : Int32)).toInt64.toUInt64 &&& Int64.toUInt64 63)).toInt64)).toInt32) &&& (65535 : Int32) := by simp [fd_decode, xl_l, xu_u]
  have d3 : fd_decode c sel V s c 3 = (((((V).toUInt64 >>> (((32 : Int32)).toInt64.toUInt64 &&& Int64.toUInt64 63)).toInt64)).toInt32) &&& (15 : Int32) := by simp [fd_decode, xl_l, xu_u]
  have d4 : fd_decode c sel V s c 4 = (((((V).toUInt64 >>> (((40 : Int32)).toInt64.toUInt64 &&& Int64.toUInt64 63)).toInt64)).toInt32) &&& (3 : Int32) := by simp [fd_decode, xl_l, xu_u]
  have d5 : fd_decode c sel V s c 5 = (((((V).toUInt64 >>> (((48 : Int32)).toInt64.toUInt64 &&& Int64.toUInt64 63)).toInt64)).toInt32) &&& (7 : Int32) := by simp [fd_decode, xl_l, xu_u]
  have d6 : fd_decode c sel V s c 6 = ((if (lg_cmp ((((V).toUInt64 >>> (((47 : Int32)).toInt64.toUInt64 &&& Int64.toUInt64 63)).toInt64) &&& (1 : Int64)) (0 : Int64)) = 0 then (0 : Int32) else (1 : Int32)) &&& 1) := by simp [fd_decode, xl_l, xu_u]
  rw [el_i V 16 (by decide) (by decide), q1] at d1
  rw [el_iu V _ 16 16 (by decide) (by decide) (by decide), q2] at d2
  rw [el_iu V _ 32 4 (by decide) (by decide) (by decide), q3] at d3
  rw [el_iu V _ 40 2 (by decide) (by decide) (by decide), q4] at d4
  rw [el_iu V _ 48 3 (by decide) (by decide) (by decide), q6] at d5
  have p6 := el_p V (((47 : Int32)).toInt64.toUInt64 &&& Int64.toUInt64 63) 47 (by decide)
  simp only [p6, q5] at d6
  unfold zd_D
  rw [d0, d1, d2, d3, d4, d5, d6, r1, r2, r3, r4, r5, r6]
  exact ⟨rfl, rfl, rfl, rfl, rfl, rfl, rfl, bt_j (n := n2 + 256 * n3) (m := 65535) (by omega) (by decide), bt_j (n := n4 % 2 ^ 4) (m := 15) (by omega) (by decide), bt_j (n := n5 % 2 ^ 2) (m := 3) (by omega) (by decide), bt_j (n := n6 % 2 ^ 3) (m := 7) (by omega) (by decide)⟩
theorem sv_eight {a k : Int32} {σ τ : xs_S} (hL : zl_L σ τ) : zz_Z (fm_eightAt a σ) (fy_readDescriptor a k τ) (fun V σ' τ' => zl_L σ' τ' ∧ zF [2, 12] zl_R σ σ' τ τ' ∧ zd_E V τ' k.toNatClampNeg ∧ zi_I k.toNatClampNeg τ τ') (fun σ' τ' => zx_X σ' τ' ∧ zF [2, 12] zl_R σ σ' τ τ') := by
  rw [te_e, ty_e]
  have hF : zF [2, 12] zl_B σ σ τ τ := zF_r
  unfold ty_0
  rw [if_pos (zi_n hL.2.2.1)]
  refine zz_bw (Φ1 := zt_P σ τ τ 0) (Ψ1 := zt_N σ τ) (sv_w hL hF) (fun b0 σ0 τ0 h0 => ?_) (fun σ0 τ0 h0 => ?_)
  case refine_2 =>
    rw [ty_r1 (zi_v h0.1.2.2)]
    exact ⟨ty_X h0.1, ty_F h0.2⟩
  obtain ⟨n0, hn0, rfl, hL0, hF0, x0, y0⟩ := h0
  refine zz_lc (fun v0 e0 => ?_)
  have V0 : v0.toBitVec.toNat = n0 := by
    rw [e0, el_or (A := 0) (b := n0) (k := 0) rfl (by decide) hn0 (by decide) (by decide)]
    omega
  unfold ty_1
  rw [if_pos (zi_n hL0.2.2.1)]
  refine zz_bw (Φ1 := zt_P σ τ τ0 1) (Ψ1 := zt_N σ τ) (sv_w hL0 hF0) (fun b1 σ1 τ1 h1 => ?_) (fun σ1 τ1 h1 => ?_)
  case refine_2 =>
    rw [ty_r2 (zi_v h1.1.2.2)]
    exact ⟨ty_X h1.1, ty_F h1.2⟩
  obtain ⟨n1, hn1, rfl, hL1, hF1, x1, y1⟩ := h1
  refine zz_lc (fun v1 e1 => ?_)
  have V1 : v1.toBitVec.toNat = n0 + 2 ^ 8 * n1 := by
    rw [e1]
    exact el_or (k := 8) V0 (by omega) hn1 (by decide) (by decide)
  unfold ty_2
  rw [if_pos (zi_n hL1.2.2.1)]
  refine zz_bw (Φ1 := zt_P σ τ τ1 2) (Ψ1 := zt_N σ τ) (sv_w hL1 hF1) (fun b2 σ2 τ2 h2 => ?_) (fun σ2 τ2 h2 => ?_)
  case refine_2 =>
    rw [ty_r3 (zi_v h2.1.2.2)]
    exact ⟨ty_X h2.1, ty_F h2.2⟩
  obtain ⟨n2, hn2, rfl, hL2, hF2, x2, y2⟩ := h2
  refine zz_lc (fun v2 e2 => ?_)
  have V2 : v2.toBitVec.toNat = n0 + 2 ^ 8 * n1 + 2 ^ 16 * n2 := by
    rw [e2]
    exact el_or (k := 16) V1 (by omega) hn2 (by decide) (by decide)
  unfold ty_3
  rw [if_pos (zi_n hL2.2.2.1)]
  refine zz_bw (Φ1 := zt_P σ τ τ2 3) (Ψ1 := zt_N σ τ) (sv_w hL2 hF2) (fun b3 σ3 τ3 h3 => ?_) (fun σ3 τ3 h3 => ?_)
  case refine_2 =>
    rw [ty_r4 (zi_v h3.1.2.2)]
    exact ⟨ty_X h3.1, ty_F h3.2⟩
  obtain ⟨n3, hn3, rfl, hL3, hF3, x3, y3⟩ := h3
  refine zz_lc (fun v3 e3 => ?_)
  have V3 : v3.toBitVec.toNat = n0 + 2 ^ 8 * n1 + 2 ^ 16 * n2 + 2 ^ 24 * n3 := by
    rw [e3]
    exact el_or (k := 24) V2 (by omega) hn3 (by decide) (by decide)
  unfold ty_4
  rw [if_pos (zi_n hL3.2.2.1)]
  refine zz_bw (Φ1 := zt_P σ τ τ3 4) (Ψ1 := zt_N σ τ) (sv_w hL3 hF3) (fun b4 σ4 τ4 h4 => ?_) (fun σ4 τ4 h4 => ?_)
  case refine_2 =>
    rw [ty_r5 (zi_v h4.1.2.2)]
    exact ⟨ty_X h4.1, ty_F h4.2⟩
  obtain ⟨n4, hn4, rfl, hL4, hF4, x4, y4⟩ := h4
  refine zz_lc (fun v4 e4 => ?_)
  have V4 : v4.toBitVec.toNat = n0 + 2 ^ 8 * n1 + 2 ^ 16 * n2 + 2 ^ 24 * n3 + 2 ^ 32 * n4 := by
    rw [e4]
    exact el_or (k := 32) V3 (by omega) hn4 (by decide) (by decide)
  unfold ty_5
  rw [if_pos (zi_n hL4.2.2.1)]
  refine zz_bw (Φ1 := zt_P σ τ τ4 5) (Ψ1 := zt_N σ τ) (sv_w hL4 hF4) (fun b5 σ5 τ5 h5 => ?_) (fun σ5 τ5 h5 => ?_)
  case refine_2 =>
    rw [ty_r6 (zi_v h5.1.2.2)]
    exact ⟨ty_X h5.1, ty_F h5.2⟩
  obtain ⟨n5, hn5, rfl, hL5, hF5, x5, y5⟩ := h5
  refine zz_lc (fun v5 e5 => ?_)
  have V5 : v5.toBitVec.toNat = n0 + 2 ^ 8 * n1 + 2 ^ 16 * n2 + 2 ^ 24 * n3 + 2 ^ 32 * n4 + 2 ^ 40 * n5 := by
    rw [e5]
    exact el_or (k := 40) V4 (by omega) hn5 (by decide) (by decide)
  unfold ty_6
  rw [if_pos (zi_n hL5.2.2.1)]
  refine zz_bw (Φ1 := zt_P σ τ τ5 6) (Ψ1 := zt_N σ τ) (sv_w hL5 hF5) (fun b6 σ6 τ6 h6 => ?_) (fun σ6 τ6 h6 => ?_)
  case refine_2 =>
    rw [ty_r7 (zi_v h6.1.2.2)]
    exact ⟨ty_X h6.1, ty_F h6.2⟩
  obtain ⟨n6, hn6, rfl, hL6, hF6, x6, y6⟩ := h6
  refine zz_lc (fun v6 e6 => ?_)
  have V6 : v6.toBitVec.toNat = n0 + 2 ^ 8 * n1 + 2 ^ 16 * n2 + 2 ^ 24 * n3 + 2 ^ 32 * n4 + 2 ^ 40 * n5 + 2 ^ 48 * n6 := by
    rw [e6]
    exact el_or (k := 48) V5 (by omega) hn6 (by decide) (by decide)
  unfold ty_7
  rw [if_pos (zi_n hL6.2.2.1)]
  refine zz_bw (Φ1 := zt_P σ τ τ6 7) (Ψ1 := zt_N σ τ) (sv_w hL6 hF6) (fun b7 σ7 τ7 h7 => ?_) (fun σ7 τ7 h7 => ?_)
  case refine_2 =>
    rw [ty_r8 (zi_v h7.1.2.2)]
    exact ⟨ty_X h7.1, ty_F h7.2⟩
  obtain ⟨n7, hn7, rfl, hL7, hF7, x7, y7⟩ := h7
  refine zz_lc (fun v7 e7 => ?_)
  have V7 : v7.toBitVec.toNat = n0 + 2 ^ 8 * n1 + 2 ^ 16 * n2 + 2 ^ 24 * n3 + 2 ^ 32 * n4 + 2 ^ 40 * n5 + 2 ^ 48 * n6 + 2 ^ 56 * n7 := by
    rw [e7]
    exact el_or (k := 56) V6 (by omega) hn7 (by decide) (by decide)
  refine zz_s ⟨ty_L hL7, ty_F hF7, zd_V (n7 := n7) hn0 hn1 hn2 hn3 hn4 hn5 hn6 hn7 V7 ?_ ?_ ?_ ?_ ?_ ?_ ?_, ty_I hF7⟩
  · rw [y7 0 (by decide), y6 0 (by decide), y5 0 (by decide), y4 0 (by decide), y3 0 (by decide), y2 0 (by decide), y1 0 (by decide), x0]
  · rw [y7 1 (by decide), y6 1 (by decide), y5 1 (by decide), y4 1 (by decide), y3 1 (by decide), y2 1 (by decide), x1]
  · rw [y7 2 (by decide), y6 2 (by decide), y5 2 (by decide), y4 2 (by decide), y3 2 (by decide), x2]
  · rw [y7 3 (by decide), y6 3 (by decide), y5 3 (by decide), y4 3 (by decide), x3]
  · rw [y7 4 (by decide), y6 4 (by decide), y5 4 (by decide), x4]
  · rw [y7 5 (by decide), y6 5 (by decide), x5]
  · rw [y7 6 (by decide), x6]
