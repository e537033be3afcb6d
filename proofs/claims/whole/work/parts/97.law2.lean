/-! The law: its start. -/
theorem wl_0 : Cond.classLink "RingMachineLaw" 7 "RingMachine" ∈ xw_T := xw_Tin (List.mem_append_right _ (List.mem_of_getElem? (i := 11) (by decide +kernel))) rfl
theorem wl_1 : Cond.instantiable "RingMachine" 13 ∈ xw_T := xw_Tin (List.mem_append_right _ (List.mem_of_getElem? (i := 12) (by decide +kernel))) rfl
theorem wl_3 : Cond.methodLink "RingMachineLaw" 9 ⟨"RingMachine", "<init>", "()V"⟩ ∈ xw_T := xw_Tin (List.mem_append_right _ (List.mem_of_getElem? (i := 13) (by decide +kernel))) rfl
theorem wl_4 : Cond.instanceMethod ⟨"RingMachine", "<init>", "()V"⟩ ∈ xw_T := xw_Tin (List.mem_append_right _ (List.mem_of_getElem? (i := 14) (by decide +kernel))) rfl
theorem wl_6 : Cond.classLink "RingMachineLaw" 10 "RingMachineModel" ∈ xw_T := xw_Tin (List.mem_append_right _ (List.mem_of_getElem? (i := 536) (by decide +kernel))) rfl
theorem wl_7 : Cond.instantiable "RingMachineModel" 19 ∈ xw_T := xw_Tin (List.mem_append_right _ (List.mem_of_getElem? (i := 537) (by decide +kernel))) rfl
theorem wl_9 : Cond.methodLink "RingMachineLaw" 12 ⟨"RingMachineModel", "<init>", "()V"⟩ ∈ xw_T := xw_Tin (List.mem_append_right _ (List.mem_of_getElem? (i := 538) (by decide +kernel))) rfl
theorem wl_10 : Cond.instanceMethod ⟨"RingMachineModel", "<init>", "()V"⟩ ∈ xw_T := xw_Tin (List.mem_append_right _ (List.mem_of_getElem? (i := 539) (by decide +kernel))) rfl
theorem wz_0 : Cond.laysStatic Jvm.Bundle.tN "UNASSIGNED_STACK" Jvm.Bundle.steD ∈ lw_tbl := List.mem_append_right _ (List.mem_of_getElem? (i := 275) (by decide +kernel))
theorem wz_1 : Cond.laysStatic Jvm.Bundle.tN "SUPPRESSED_SENTINEL" Jvm.Bundle.listD ∈ lw_tbl := List.mem_append_right _ (List.mem_of_getElem? (i := 277) (by decide +kernel))
theorem rq_1 {ρ : xs_R} (h : ρ = fun _ _ => none) : ry_init (xu_n (rr_init (xu_n ρ 1)) 18) = xr_0 := by
  subst h
  funext a b
  by_cases a1 : a = 1
  · subst a1
    simp only [ry_init, rr_init, rm_init, rg_init_3, rg_init_7, xu_r, xu_n, xr_0]
    simp
    by_cases b0 : b = 0
    · subst b0; rfl
    by_cases b1 : b = 1
    · subst b1; rfl
    by_cases b2 : b = 2
    · subst b2; rfl
    by_cases b3 : b = 3
    · subst b3; rfl
    by_cases b4 : b = 4
    · subst b4; rfl
    by_cases b5 : b = 5
    · subst b5; rfl
    by_cases b6 : b = 6
    · subst b6; rfl
    by_cases b7 : b = 7
    · subst b7; rfl
    by_cases b8 : b = 8
    · subst b8; rfl
    simp [b0, b1, b2, b3, b4, b5, b6, b7, b8]
  by_cases a3 : a = 3
  · subst a3
    simp only [ry_init, rr_init, rm_init, rg_init_3, rg_init_7, xu_r, xu_n, xr_0]
    simp
    by_cases b0 : b = 0
    · subst b0; rfl
    by_cases b1 : b = 1
    · subst b1; rfl
    by_cases b2 : b = 2
    · subst b2; rfl
    simp [b0, b1, b2]
  by_cases a7 : a = 7
  · subst a7
    simp only [ry_init, rr_init, rm_init, rg_init_3, rg_init_7, xu_r, xu_n, xr_0]
    simp
    by_cases b0 : b = 0
    · subst b0; rfl
    by_cases b1 : b = 1
    · subst b1; rfl
    by_cases b2 : b = 2
    · subst b2; rfl
    simp [b0, b1, b2]
  by_cases a11 : a = 11
  · subst a11
    simp only [ry_init, rr_init, rm_init, rg_init_3, rg_init_7, xu_r, xu_n, xr_0]
    simp
    by_cases b0 : b = 0
    · subst b0; rfl
    by_cases b1 : b = 1
    · subst b1; rfl
    by_cases b2 : b = 2
    · subst b2; rfl
    simp [b0, b1, b2]
  by_cases a18 : a = 18
  · subst a18
    simp only [ry_init, rr_init, rm_init, rg_init_3, rg_init_7, xu_r, xu_n, xr_0]
    simp
    by_cases b0 : b = 0
    · subst b0; rfl
    by_cases b5 : b = 5
    · subst b5; rfl
    by_cases b6 : b = 6
    · subst b6; rfl
    by_cases b12 : b = 12
    · subst b12; rfl
    by_cases b13 : b = 13
    · subst b13; rfl
    by_cases b14 : b = 14
    · subst b14; rfl
    by_cases b15 : b = 15
    · subst b15; rfl
    by_cases b16 : b = 16
    · subst b16; rfl
    by_cases b17 : b = 17
    · subst b17; rfl
    by_cases b18 : b = 18
    · subst b18; rfl
    simp [b0, b5, b6, b12, b13, b14, b15, b16, b17, b18]
  simp only [ry_init, rr_init, rm_init, rg_init_3, rg_init_7, xu_r, xu_n, xr_0, a1, a3, a7, a11, a18, if_false, ite_self]
def lF (σ : xs_S) : xs_S := sy_init (xu_z (sr_init (xu_z σ 1)) 18)
theorem jz_n (n m : Nat) (h : n ≤ m) (hm : m < 2 ^ 31) {x : Int32} (e : x = nI n) : jr_R x m := e ▸ bt_j h hm
theorem lF_12 (σ : xs_S) (k : Nat) : lF σ 12 k = 0 := rfl
theorem lF_19 (σ : xs_S) (k : Nat) : lF σ 19 k = 0 := rfl
theorem lF_I (σ : xs_S) : lI (lF σ) := by
  refine ⟨⟨⟨rfl, rfl, rfl, rfl, rfl⟩, ⟨?_, ?_, rfl⟩, ⟨⟨rfl, ?_, ?_⟩, ⟨rfl, ?_, ?_⟩, ⟨rfl, ?_, ?_⟩, ?_, rfl, rfl, ⟨rfl, ?_⟩, ⟨rfl, ?_⟩, rfl, ⟨rfl, ?_⟩, rfl⟩, rfl, ?_⟩, ⟨?_, ?_, ?_⟩, ⟨?_, ?_, ?_⟩⟩
  · funext k
    rw [lF_12, lF_19]
  · intro a
    rw [lF_12]
    exact bt_j (n := 0) (m := 255) (by decide) (by decide)
  · exact bt_j (n := 4) (m := 65535) (by decide) (by decide)
  · exact Or.inr ⟨rfl, (by decide : ¬ (4 : Int32) < 4), rfl, rfl, rfl, rfl⟩
  · exact bt_j (n := 8) (m := 65535) (by decide) (by decide)
  · exact Or.inr ⟨rfl, (by decide : ¬ (8 : Int32) < 4), rfl, rfl, rfl, rfl⟩
  · exact bt_j (n := 8) (m := 65535) (by decide) (by decide)
  · exact Or.inr ⟨rfl, (by decide : ¬ (8 : Int32) < 4), rfl, rfl, rfl, rfl⟩
  · exact fun _ => rfl
  · exact bt_j (n := 0) (m := 3) (by decide) (by decide)
  · exact bt_j (n := 0) (m := 65535) (by decide) (by decide)
  · exact bt_j (n := 0) (m := 31) (by decide) (by decide)
  · exact bt_j (n := 0) (m := 3) (by decide) (by decide)
  · exact bt_j (n := 0) (m := 31) (by decide) (by decide)
  · exact bt_j (n := 0) (m := 31) (by decide) (by decide)
  · exact bt_j (n := 0) (m := 7) (by decide) (by decide)
  · exact bt_j (n := 0) (m := 31) (by decide) (by decide)
  · exact bt_j (n := 0) (m := 31) (by decide) (by decide)
  · exact bt_j (n := 0) (m := 7) (by decide) (by decide)
theorem la_all {l : Launch} {N : Nat} {σ : xs_S} {ρ : xs_R} (hl : l.stackTraces = false) (hN : N ≤ 2048) (hρ : ρ = fun _ _ => none) : ∃ w' : xw_W, xw_w (xk_k N) l tl_law 0 [some (.ref 0), none, none, none] [] (1, 0, σ, ρ) (.inl (some (.int 1)), w') ∧ w'.1 ≤ 1054 ∧ w'.2.1 ≤ 12505 := by
  obtain ⟨w', a, b1, b2⟩ := ll_loop hl hN (N / 4) 0 29 (0 + 13 + 2155 + 19 + 2120) (lF σ) (by decide) (lF_I σ) (by omega) (by omega)
  refine ⟨w', ?_, by omega, by omega⟩
  have e0 : nI (4 * 0) = (0 : Int32) := by decide
  rw [e0] at a
  refine xw_new (ci := 4) (C := "RingMachine") (T := xc_F4) (N := 13) dl_law_0 rfl wl_0 wl_1 w_121 rfl ?_
  refine xw_dup dl_law_3 rfl ?_
  refine xw_c0 dl_law_4 (xw_lkI (As := []) dl_law_4.1 rfl wl_3 wl_4 ok_r_init w_120 pd_6) ok_r_init (mr_init hl) ⟨Nat.le_of_ble_eq_true rfl, Nat.le_of_ble_eq_true rfl⟩ ?_
  refine xw_astore1 dl_law_7 (Nat.le_of_ble_eq_true rfl) rfl ?_
  refine xw_new (ci := 5) (C := "RingMachineModel") (T := xc_F5) (N := 19) dl_law_8 rfl wl_6 wl_7 w_175 rfl ?_
  refine xw_dup dl_law_11 rfl ?_
  refine xw_c0 dl_law_12 (xw_lkI (As := []) dl_law_12.1 rfl wl_9 wl_10 ok_y_init w_174 pd_6) ok_y_init (my_init hl) ⟨Nat.le_of_ble_eq_true rfl, Nat.le_of_ble_eq_true rfl⟩ ?_
  refine xw_astore2 dl_law_15 (Nat.le_of_ble_eq_true rfl) rfl ?_
  refine xw_iconst dl_law_16 ki_0 ?_
  refine xw_istore3 dl_law_17 (Nat.le_of_ble_eq_true rfl) rfl ?_
  rw [rq_1 hρ]
  exact a
