/-! The law: which call it is, and the loop. -/
section LD
variable {l : Launch} {N n u : Nat} {σ : xs_S} {i : Int32}
theorem lt_ss {k : Int32} {off : Int} {tgt : Nat} {E : xw_O × xw_W} (hn : 29 ≤ n) (v0 : vp_in i N) (ej : σ 0 i.toNatClampNeg &&& 15 = k) (h1 : ¬ k.toInt < 0) (h2 : ¬ (15 : Int) < k.toInt) (ho : (#[80, 113, 136, 199, 242, 291, 324, 357, 400, 423, 436, 495, 508, 531, 544, 567] : Array Int)[(k.toInt - 0).toNat]? = some off) (ht : ((32 : Nat) : Int) + off = (tgt : Int)) (kk : xw_w (xk_k N) l tl_law tgt [some (.ref 0), some (.ref 1), some (.ref 18), some (.int i)] [] (n, u, σ, xr_0) E) : xw_w (xk_k N) l tl_law 26 [some (.ref 0), some (.ref 1), some (.ref 18), some (.int i)] [] (n, u, σ, xr_0) E := by
  refine xw_aload0 dl_law_26 ?_
  refine xw_iload3 dl_law_27 ?_
  refine xw_sald dl_law_28 (xl_n hn (by decide)) rfl v0 rfl ?_
  refine xw_bipush dl_law_29 kb_15 ?_
  refine xw_iand dl_law_31 ?_
  exact xw_tsI dl_law_32 ej h1 h2 ho ht kk
theorem lt_cc {k : Int32} {off : Int} {tgt : Nat} (hn : 29 ≤ n) (v0 : vp_in i N) (ej : σ 0 i.toNatClampNeg &&& 15 = k) (h1 : ¬ k.toInt < 0) (h2 : ¬ (15 : Int) < k.toInt) (ho : (#[80, 113, 136, 199, 242, 291, 324, 357, 400, 423, 436, 495, 508, 531, 544, 567] : Array Int)[(k.toInt - 0).toNat]? = some off) (ht : ((32 : Nat) : Int) + off = (tgt : Int)) (h : lS N l i n u σ tgt) : lS N l i n u σ 26 := by
  obtain ⟨q, s', c1, c2, c3, k⟩ := h
  exact ⟨q, s', c1, c2, c3, fun E h => lt_ss hn v0 ej h1 h2 ho ht (k E h)⟩
theorem li_all (hl : l.stackTraces = false) (hn : 29 ≤ n) (hI : lI σ) (v0 : vp_in i N) (v1 : vp_in (i + 1) N) (v2 : vp_in (i + 2) N) (v3 : vp_in (i + 3) N) : lS N l i n u σ 26 := by
  obtain ⟨j, hj, ej⟩ : ∃ q : Nat, q < 16 ∧ σ 0 i.toNatClampNeg &&& 15 = nI q := pk_andE _ 4 (by decide)
  have hj2 : j = 0 ∨ j = 1 ∨ j = 2 ∨ j = 3 ∨ j = 4 ∨ j = 5 ∨ j = 6 ∨ j = 7 ∨ j = 8 ∨ j = 9 ∨ j = 10 ∨ j = 11 ∨ j = 12 ∨ j = 13 ∨ j = 14 ∨ j = 15 := by omega
  rcases hj2 with rfl | rfl | rfl | rfl | rfl | rfl | rfl | rfl | rfl | rfl | rfl | rfl | rfl | rfl | rfl | rfl
  · exact lt_cc hn v0 ej (by decide) (by decide) (show _ = some (80 : Int) by decide) (by decide) (li_poke hl hn hI v1 v2 v3)
  · exact lt_cc hn v0 ej (by decide) (by decide) (show _ = some (113 : Int) by decide) (by decide) (li_peek hl hn hI v1 v2 v3)
  · exact lt_cc hn v0 ej (by decide) (by decide) (show _ = some (136 : Int) by decide) (by decide) (li_fill hl hn hI v1 v2 v3)
  · exact lt_cc hn v0 ej (by decide) (by decide) (show _ = some (199 : Int) by decide) (by decide) (li_tables hl hn hI v1 v2 v3)
  · exact lt_cc hn v0 ej (by decide) (by decide) (show _ = some (242 : Int) by decide) (by decide) (li_pages hl hn hI v1 v2 v3)
  · exact lt_cc hn v0 ej (by decide) (by decide) (show _ = some (291 : Int) by decide) (by decide) (li_load hl hn hI v1 v2 v3)
  · exact lt_cc hn v0 ej (by decide) (by decide) (show _ = some (324 : Int) by decide) (by decide) (li_read hl hn hI v1 v2 v3)
  · exact lt_cc hn v0 ej (by decide) (by decide) (show _ = some (357 : Int) by decide) (by decide) (li_write hl hn hI v1 v2 v3)
  · exact lt_cc hn v0 ej (by decide) (by decide) (show _ = some (400 : Int) by decide) (by decide) (li_push hl hn hI v1 v2 v3)
  · exact lt_cc hn v0 ej (by decide) (by decide) (show _ = some (423 : Int) by decide) (by decide) (li_pop hl hn hI v1 v2 v3)
  · exact lt_cc hn v0 ej (by decide) (by decide) (show _ = some (436 : Int) by decide) (by decide) (li_far hl hn hI v1 v2 v3)
  · exact lt_cc hn v0 ej (by decide) (by decide) (show _ = some (495 : Int) by decide) (by decide) (li_back hl hn hI v1 v2 v3)
  · exact lt_cc hn v0 ej (by decide) (by decide) (show _ = some (508 : Int) by decide) (by decide) (li_trap hl hn hI v1 v2 v3)
  · exact lt_cc hn v0 ej (by decide) (by decide) (show _ = some (531 : Int) by decide) (by decide) (li_end hl hn hI v1 v2 v3)
  · exact lt_cc hn v0 ej (by decide) (by decide) (show _ = some (544 : Int) by decide) (by decide) (li_register hl hn hI v1 v2 v3)
  · exact lt_cc hn v0 ej (by decide) (by decide) (show _ = some (567 : Int) by decide) (by decide) (li_segment hl hn hI v1 v2 v3)
theorem la_c {c k : Nat} {K : Int32} (hK : K = nI k) (h : 4 * c + k < N) (hN : N ≤ 2048) : vp_in (nI (4 * c) + K) N := by
  rw [hK, nI_add]
  exact vp_in_nI h (by omega)
theorem la_0 {c : Nat} (h : 4 * c < N) (hN : N ≤ 2048) : vp_in (nI (4 * c)) N := vp_in_nI h (by omega)
theorem la_n {c : Nat} (hN : N ≤ 2048) (hc : 4 * c ≤ 2048) : (Int32.ofNat N - 4 < nI (4 * c)) ↔ N < 4 * c + 4 := by
  have e1 : (Int32.ofNat N).toInt = N := nI_toInt (n := N) (by omega)
  have e2 : (4 : Int32).toInt = 4 := by decide
  have e3 : (Int32.ofNat N - 4).toInt = (N : Int) - 4 := by
    rw [Jvm.Kit.i32_sub (by omega) (by omega), e1, e2]
  rw [Int32.lt_iff_toInt_lt, e3, nI_toInt (by omega)]
  omega
theorem la_4 (c : Nat) : nI (4 * c) + Int32.ofInt 4 = nI (4 * (c + 1)) := by
  rw [ki_4, show (4 : Int32) = nI 4 by decide, nI_add]
  rfl
theorem ll_loop (hl : l.stackTraces = false) (hN : N ≤ 2048) : ∀ (m c n u : Nat) (σ : xs_S), 29 ≤ n → lI σ → 4 * c + 4 * m ≤ N → N < 4 * c + 4 * m + 4 → ∃ w' : xw_W, xw_w (xk_k N) l tl_law 18 [some (.ref 0), some (.ref 1), some (.ref 18), some (.int (nI (4 * c)))] [] (n, u, σ, xr_0) (.inl (some (.int 1)), w') ∧ w'.1 + ld σ ≤ n + 2 * m + 1 ∧ w'.2.1 + 6 * ld σ ≤ u + 12 * m + 6 := by
  intro m
  induction m with
  | zero =>
    intro c n u σ hn hI h1 h2
    refine ⟨(n, u, σ, xr_0), ?_, ?_, ?_⟩
    · refine xw_iload3 dl_law_18 ?_
      refine xw_aload0 dl_law_19 ?_
      refine xw_slen dl_law_20 (xl_n hn (by decide)) rfl ?_
      refine xw_iconst dl_law_21 ki_4 ?_
      refine xw_isub dl_law_22 ?_
      refine xw_icmp_gt_t dl_law_23 rfl ((la_n hN (by omega)).mpr (by omega)) ?_
      refine xw_iconst dl_law_638 ki_1 ?_
      exact xw_zret dl_law_639 rfl (by decide)
    · have := ld_1 σ
      show n + ld σ ≤ n + 2 * 0 + 1
      omega
    · have := ld_1 σ
      show u + 6 * ld σ ≤ u + 12 * 0 + 6
      omega
  | succ m ih =>
    intro c n u σ hn hI h1 h2
    obtain ⟨q, s', c1, _, c3, k⟩ := li_all (n := n) (u := u) hl hn hI (la_0 (N := N) (c := c) (by omega) hN) (la_c (c := c) (k := 1) (by decide) (by omega) hN) (la_c (c := c) (k := 2) (by decide) (by omega) hN) (la_c (c := c) (k := 3) (by decide) (by omega) hN)
    obtain ⟨w', a, b1, b2⟩ := ih (c + 1) (n + q) (u + 6 * q) s' (by omega) c1 (by omega) (by omega)
    refine ⟨w', ?_, by omega, by omega⟩
    refine xw_iload3 dl_law_18 ?_
    refine xw_aload0 dl_law_19 ?_
    refine xw_slen dl_law_20 (xl_n hn (by decide)) rfl ?_
    refine xw_iconst dl_law_21 ki_4 ?_
    refine xw_isub dl_law_22 ?_
    refine xw_icmp_gt_f dl_law_23 rfl (fun z => absurd ((la_n hN (by omega)).mp z) (by omega)) ?_
    refine k _ ?_
    refine xw_iinc3 dl_law_632 (la_4 c) (Nat.le_of_ble_eq_true rfl) rfl ?_
    exact xw_goto dl_law_635 rfl a
end LD
