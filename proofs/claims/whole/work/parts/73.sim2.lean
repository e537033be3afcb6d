/-! Bytes and words, read and written. -/
theorem xp_bb {α β γ : Type} {x : xp_P α} {f : α → xs_S → xp_P β} {g : β → xs_S → xp_P γ} : xp_b (xp_b x f) g = xp_b x (fun a s => xp_b (f a s) g) := by
  obtain ⟨o, s⟩ := x
  cases o <;> rfl
theorem bw_at (a r : Int32) (σ : xs_S) : fm_wordAt a r σ = xp_b (fm_byteAt a r σ) (fun v3 s2 => xp_b (fm_byteAt (a + 1) r s2) (fun v6 s5 => (some (v3 + 256 * v6), s5))) := by
  unfold fm_wordAt fm_byteAt
  simp only [xp_bb]
  rfl
theorem bw_set (a v r : Int32) (σ : xs_S) : fm_setWord a v r σ = xp_b (fm_setByte a v r σ) (fun _ s3 => xp_b (fm_setByte (a + 1) (v >>> (8 &&& 31)) r s3) (fun _ s6 => (some (), s6))) := by
  unfold fm_setWord fm_setByte xl_l
  simp only [xp_bb]
  rfl
section SB
variable {a v ring s : Int32} {σ τ : xs_S}
theorem sv_byteAt (hL : zl_L σ τ) (hr : s = 0 ∧ ring = τ 20 21 ∨ s = 1 ∧ ring = 0) : zz_Z (fm_byteAt a ring σ) (fy_readByte a s τ) (fun p σ' r => r.1 = p ∧ zl_L σ' r.2 ∧ zF [2, 12] [18, 19] σ σ' τ r.2 ∧ jr_R p 255) (fun σ' r => zx_X σ' r.2 ∧ zF [2, 12] [18, 19] σ σ' τ r.2) := by
  unfold fm_byteAt fy_readByte
  refine zz_b (sv_locate hL hr) (fun p σ1 r h1 => ?_) (fun σ1 r h1 => ?_)
  · obtain ⟨h1, h2, h3, h4⟩ := h1
    rw [if_pos (zi_n h2.2.2.1)]
    refine zz_s ?_
    unfold fm_at
    rw [h1]
    by_cases e : (2048 : Int32) ≤ p
    · rw [if_pos e, if_pos e]
      exact ⟨rfl, h2, h3, bt_j (n := 255) (m := 255) (by decide) (by decide)⟩
    · rw [if_neg e, if_neg e]
      exact ⟨by rw [h2.2.1.1], h2, h3, h2.2.1.2.1 _⟩
  · rw [if_neg (by rw [zi_r (zi_v h1.1.2.2)]; decide)]
    exact h1
theorem sv_setByte (hL : zl_L σ τ) (hr : s = 0 ∧ ring = τ 20 21 ∨ s = 1 ∧ ring = 0) : zz_Z (fm_setByte a v ring σ) (fy_writeByte a v s τ) (fun _ σ' τ' => zl_L σ' τ' ∧ zF [2, 12] [18, 19] σ σ' τ τ') (fun σ' τ' => zx_X σ' τ' ∧ zF [2, 12] [18, 19] σ σ' τ τ') := by
  unfold fm_setByte fy_writeByte
  refine zz_b (sv_locate hL hr) (fun p σ1 r h1 => ?_) (fun σ1 r h1 => ?_)
  · obtain ⟨h1, h2, h3, h4⟩ := h1
    rw [if_pos (zi_n h2.2.2.1)]
    refine zz_lc (fun s3 e3 => ?_)
    unfold fm_put at e3
    rw [h1]
    by_cases e : (2048 : Int32) ≤ p
    · rw [if_pos e] at e3 ⊢
      rw [e3]
      exact zz_s ⟨h2, h3⟩
    · rw [if_neg e] at e3 ⊢
      rw [e3]
      have hF : zF [2, 12] [18, 19] σ1 (xu_u σ1 12 p.toNatClampNeg (v &&& 255)) r.2 (xu_u r.2 19 p.toNatClampNeg (v &&& 255)) := ⟨zf_u zf_r (by decide), zf_u zf_r (by decide), zk_c zk_r (by decide)⟩
      have hM := h2.2.1
      exact zz_s ⟨zl_F h2 hF (by decide) (by decide) (by decide) (by decide) ⟨bt_row hM.1, bt_rng hM.2.1 (jr_and (k := 8) (by decide) (by decide) (by decide)), hM.2.2⟩ h2.2.2.1, zF_t h3 hF⟩
  · rw [if_neg (by rw [zi_r (zi_v h1.1.2.2)]; decide)]
    exact h1
theorem zs_t {σ1 : xs_S} {τ1 : xs_S} (h : zF [2, 12] [18, 19] σ σ1 τ τ1) (hr : s = 0 ∧ ring = τ 20 21 ∨ s = 1 ∧ ring = 0) : s = 0 ∧ ring = τ1 20 21 ∨ s = 1 ∧ ring = 0 := by
  rw [h.2.1 20 (by decide)]
  exact hr
theorem zw_r {x y : Int32} (hx : jr_R x 255) (hy : jr_R y 255) : jr_R (x + 256 * y) 65535 := by
  obtain ⟨a, ha, rfl⟩ := bt_o hx
  obtain ⟨b, hb, rfl⟩ := bt_o hy
  rw [show (256 : Int32) = nI 256 by decide, pk_mul, nI_add]
  exact bt_j (n := a + 256 * b) (m := 65535) (by omega) (by decide)
theorem sv_wordAt (hL : zl_L σ τ) (hr : s = 0 ∧ ring = τ 20 21 ∨ s = 1 ∧ ring = 0) : zz_Z (fm_wordAt a ring σ) (fy_readWord a s τ) (fun p σ' r => r.1 = p ∧ zl_L σ' r.2 ∧ zF [2, 12] [18, 19] σ σ' τ r.2 ∧ jr_R p 65535) (fun σ' r => zx_X σ' r.2 ∧ zF [2, 12] [18, 19] σ σ' τ r.2) := by
  rw [bw_at]
  unfold fy_readWord
  refine zz_b (sv_byteAt hL hr) (fun p σ1 r h1 => ?_) (fun σ1 r h1 => ?_)
  · obtain ⟨h1, h2, h3, h4⟩ := h1
    rw [if_pos (zi_n h2.2.2.1)]
    refine zz_b (sv_byteAt h2 (zs_t h3 hr)) (fun p' σ2 r' h5 => ?_) (fun σ2 r' h5 => ?_)
    · obtain ⟨h5, h6, h7, h8⟩ := h5
      exact zz_s ⟨by rw [h1, h5], h6, zF_t h3 h7, zw_r h4 h8⟩
    · exact ⟨h5.1, zF_t h3 h5.2⟩
  · rw [if_neg (by rw [zi_r (zi_v h1.1.2.2)]; decide)]
    exact h1
theorem sv_setWord (hL : zl_L σ τ) (hr : s = 0 ∧ ring = τ 20 21 ∨ s = 1 ∧ ring = 0) : zz_Z (fm_setWord a v ring σ) (fy_writeWord a v s τ) (fun _ σ' τ' => zl_L σ' τ' ∧ zF [2, 12] [18, 19] σ σ' τ τ') (fun σ' τ' => zx_X σ' τ' ∧ zF [2, 12] [18, 19] σ σ' τ τ') := by
  rw [bw_set]
  unfold fy_writeWord
  refine zz_b (sv_setByte hL hr) (fun _ σ1 τ1 h1 => ?_) (fun σ1 τ1 h1 => ?_)
  · obtain ⟨h2, h3⟩ := h1
    rw [if_pos (zi_n h2.2.2.1)]
    refine zz_b (sv_setByte h2 (zs_t h3 hr)) (fun _ σ2 τ2 h5 => ?_) (fun σ2 τ2 h5 => ?_)
    · exact zz_s ⟨h5.1, zF_t h3 h5.2⟩
    · exact ⟨h5.1, zF_t h3 h5.2⟩
  · rw [if_neg (by rw [zi_r (zi_v h1.1.2.2)]; decide)]
    exact h1
end SB
/-! Eight bytes in a long. -/
theorem el_sh (x : Int64) (s : Int64) (k : Nat) (hs : (s.toBitVec.smod 64).toNat = k) : (x <<< s).toBitVec.toNat = x.toBitVec.toNat * 2 ^ k % 2 ^ 64 := by
  rw [Int64.toBitVec_shiftLeft, BitVec.shiftLeft_eq', BitVec.toNat_shiftLeft, hs, Nat.shiftLeft_eq]
theorem el_b {b : Nat} (h : b < 256) : ((nI b).toInt64).toBitVec.toNat = b := by
  rw [nI_l (by omega)]
  show (BitVec.ofNat 64 b).toNat = b
  rw [BitVec.toNat_ofNat]
  exact Nat.mod_eq_of_lt (by omega)
theorem el_or {A b k : Nat} {x : Int64} {s : Int64} (hx : x.toBitVec.toNat = A) (hA : A < 2 ^ k) (hb : b < 256) (hk : k ≤ 56) (hs : (s.toBitVec.smod 64).toNat = k) : (x ||| ((nI b).toInt64 <<< s)).toBitVec.toNat = A + 2 ^ k * b := by
  have hp : 2 ^ k * 256 ≤ 2 ^ 64 := by
    have : 2 ^ k ≤ 2 ^ 56 := Nat.pow_le_pow_right (by decide) hk
    omega
  have h1 : b * 2 ^ k < 2 ^ 64 := by
    have : b * 2 ^ k < 256 * 2 ^ k := Nat.mul_lt_mul_of_pos_right hb (Nat.two_pow_pos k)
    omega
  rw [Int64.toBitVec_or, BitVec.toNat_or, el_sh _ _ k hs, el_b hb, hx, Nat.mod_eq_of_lt h1, Nat.mul_comm b, Nat.or_comm, ← Nat.two_pow_add_eq_or_of_lt hA, Nat.add_comm]
theorem el_i (x : Int64) {m : Int32} (k : Nat) (hm : m.toBitVec.toNat = 2 ^ k - 1) (hk : k ≤ 32) : x.toInt32 &&& m = nI (x.toBitVec.toNat % 2 ^ k) := by
  rw [pk_and _ k hm]
  congr 1
  rw [Int64.toBitVec_toInt32, BitVec.signExtend_eq_setWidth_of_le _ (by decide), BitVec.toNat_setWidth, Nat.mod_mod_of_dvd _ (Nat.pow_dvd_pow 2 hk)]
theorem el_ur (x : Int64) (s : UInt64) (k : Nat) (hs : s.toNat % 64 = k) : ((x.toUInt64 >>> s).toInt64).toBitVec.toNat = x.toBitVec.toNat / 2 ^ k := by
  show (x.toUInt64 >>> s).toNat = x.toUInt64.toNat / 2 ^ k
  rw [UInt64.toNat_shiftRight, hs, Nat.shiftRight_eq_div_pow]
theorem el_iu (x : Int64) {m : Int32} (s : UInt64) (j k : Nat) (hs : s.toNat % 64 = j) (hm : m.toBitVec.toNat = 2 ^ k - 1) (hk : k ≤ 32) : (((x.toUInt64 >>> s).toInt64).toInt32) &&& m = nI (x.toBitVec.toNat / 2 ^ j % 2 ^ k) := by
  rw [el_i _ k hm hk, el_ur _ _ j hs]
theorem el_p (x : Int64) (s : UInt64) (j : Nat) (hs : s.toNat % 64 = j) : (lg_cmp (((x.toUInt64 >>> s).toInt64) &&& (1 : Int64)) (0 : Int64) = 0) = (x.toBitVec.toNat / 2 ^ j % 2 = 0) := by
  rw [← el_ur x s j hs]
  generalize (x.toUInt64 >>> s).toInt64 = y
  have h : (y &&& 1).toBitVec.toNat = y.toBitVec.toNat % 2 := by
    rw [Int64.toBitVec_and, BitVec.toNat_and]
    exact Nat.and_two_pow_sub_one_eq_mod _ 1
  rw [← h, propext (lg_cmp_eq _ _)]
  exact propext ⟨fun q => by rw [q]; rfl, fun q => Int64.toBitVec_inj.mp (BitVec.eq_of_toNat_eq q)⟩
