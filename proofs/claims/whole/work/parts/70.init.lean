/-! Constructors. -/
theorem wi_0 : Cond.classLink "RingMachine$Registers" 9 "RingMachine$Descriptor" ∈ xw_T := xw_Tin (List.mem_append_right _ (List.mem_of_getElem? (i := 44) (by decide +kernel))) rfl
theorem wi_1 : Cond.instantiable "RingMachine$Descriptor" 7 ∈ xw_T := xw_Tin (List.mem_append_right _ (List.mem_of_getElem? (i := 45) (by decide +kernel))) rfl
theorem wi_2 : Cond.initialized "RingMachine$Descriptor" ∈ xw_T := xw_Tin (List.mem_append_right _ (List.mem_of_getElem? (i := 4) (by decide +kernel))) rfl
theorem wi_3 : Cond.instanceMethod ⟨"RingMachine$Descriptor", "<init>", "()V"⟩ ∈ xw_T := xw_Tin (List.mem_append_right _ (List.mem_of_getElem? (i := 47) (by decide +kernel))) rfl
theorem wi_4 : Cond.code ⟨"RingMachine$Descriptor", "<init>", "()V"⟩ prog_2_method_1_code 1 (none : Option Jvm.ClassFile.FieldType) ∈ xw_T := xw_Tin (List.mem_append_right _ (List.mem_of_getElem? (i := 48) (by decide +kernel))) rfl
theorem wi_5 : Cond.methodLinkNest "RingMachine$Registers" 11 ⟨"RingMachine$Descriptor", "<init>", "()V"⟩ "RingMachine" ∈ xw_T := xw_Tin (List.mem_append_right _ (List.mem_of_getElem? (i := 46) (by decide +kernel))) rfl
theorem wi_6 : Cond.methodLink "RingMachine$Registers" 24 ⟨"RingMachine$Descriptor", "flat", "(II)V"⟩ ∈ xw_T := xw_Tin (List.mem_append_right _ (List.mem_of_getElem? (i := 79) (by decide +kernel))) rfl
theorem wi_7 : Cond.instanceMethod ⟨"RingMachine$Descriptor", "flat", "(II)V"⟩ ∈ xw_T := xw_Tin (List.mem_append_right _ (List.mem_of_getElem? (i := 80) (by decide +kernel))) rfl
theorem wi_8 : Cond.selects "RingMachine$Descriptor" ⟨"RingMachine$Descriptor", "flat", "(II)V"⟩ ⟨"RingMachine$Descriptor", "flat", "(II)V"⟩ ∈ xw_T := xw_Tin (List.mem_append_right _ (List.mem_of_getElem? (i := 81) (by decide +kernel))) rfl
theorem wi_9 : Cond.arrayClass .int ∈ xw_T := xw_Tin (List.mem_append_right _ (List.mem_of_getElem? (i := 149) (by decide +kernel))) rfl
theorem wi_10 : Cond.classLink "RingMachine" 7 "RingMachine$Fault" ∈ xw_T := xw_Tin (List.mem_append_right _ (List.mem_of_getElem? (i := 19) (by decide +kernel))) rfl
theorem wi_11 : Cond.instantiable "RingMachine$Fault" 3 ∈ xw_T := xw_Tin (List.mem_append_right _ (List.mem_of_getElem? (i := 20) (by decide +kernel))) rfl
theorem wi_12 : Cond.initialized "RingMachine$Fault" ∈ xw_T := xw_Tin (List.mem_append_right _ (List.mem_of_getElem? (i := 2) (by decide +kernel))) rfl
theorem wi_13 : Cond.instanceMethod ⟨"RingMachine$Fault", "<init>", "()V"⟩ ∈ xw_T := xw_Tin (List.mem_append_right _ (List.mem_of_getElem? (i := 22) (by decide +kernel))) rfl
theorem wi_14 : Cond.code ⟨"RingMachine$Fault", "<init>", "()V"⟩ prog_3_method_1_code 1 (none : Option Jvm.ClassFile.FieldType) ∈ xw_T := xw_Tin (List.mem_append_right _ (List.mem_of_getElem? (i := 23) (by decide +kernel))) rfl
theorem wi_15 : Cond.methodLinkNest "RingMachine" 9 ⟨"RingMachine$Fault", "<init>", "()V"⟩ "RingMachine" ∈ xw_T := xw_Tin (List.mem_append_right _ (List.mem_of_getElem? (i := 21) (by decide +kernel))) rfl
theorem wi_16 : Cond.classLink "RingMachine" 16 "RingMachine$Registers" ∈ xw_T := xw_Tin (List.mem_append_right _ (List.mem_of_getElem? (i := 38) (by decide +kernel))) rfl
theorem wi_17 : Cond.instantiable "RingMachine$Registers" 11 ∈ xw_T := xw_Tin (List.mem_append_right _ (List.mem_of_getElem? (i := 39) (by decide +kernel))) rfl
theorem wi_18 : Cond.initialized "RingMachine$Registers" ∈ xw_T := xw_Tin (List.mem_append_right _ (List.mem_of_getElem? (i := 3) (by decide +kernel))) rfl
theorem wi_19 : Cond.instanceMethod ⟨"RingMachine$Registers", "<init>", "()V"⟩ ∈ xw_T := xw_Tin (List.mem_append_right _ (List.mem_of_getElem? (i := 41) (by decide +kernel))) rfl
theorem wi_20 : Cond.code ⟨"RingMachine$Registers", "<init>", "()V"⟩ prog_5_method_1_code 1 (none : Option Jvm.ClassFile.FieldType) ∈ xw_T := xw_Tin (List.mem_append_right _ (List.mem_of_getElem? (i := 42) (by decide +kernel))) rfl
theorem wi_21 : Cond.methodLink "RingMachine" 18 ⟨"RingMachine$Registers", "<init>", "()V"⟩ ∈ xw_T := xw_Tin (List.mem_append_right _ (List.mem_of_getElem? (i := 40) (by decide +kernel))) rfl
theorem wi_22 : Cond.classLink "RingMachine" 26 "RingMachine$Memory" ∈ xw_T := xw_Tin (List.mem_append_right _ (List.mem_of_getElem? (i := 129) (by decide +kernel))) rfl
theorem wi_23 : Cond.instantiable "RingMachine$Memory" 4 ∈ xw_T := xw_Tin (List.mem_append_right _ (List.mem_of_getElem? (i := 130) (by decide +kernel))) rfl
theorem wi_24 : Cond.initialized "RingMachine$Memory" ∈ xw_T := xw_Tin (List.mem_append_right _ (List.mem_of_getElem? (i := 5) (by decide +kernel))) rfl
theorem wi_25 : Cond.instanceMethod ⟨"RingMachine$Memory", "<init>", "(LRingMachine$Fault;LRingMachine$Registers;)V"⟩ ∈ xw_T := xw_Tin (List.mem_append_right _ (List.mem_of_getElem? (i := 132) (by decide +kernel))) rfl
theorem wi_26 : Cond.code ⟨"RingMachine$Memory", "<init>", "(LRingMachine$Fault;LRingMachine$Registers;)V"⟩ prog_4_method_1_code 3 (none : Option Jvm.ClassFile.FieldType) ∈ xw_T := xw_Tin (List.mem_append_right _ (List.mem_of_getElem? (i := 133) (by decide +kernel))) rfl
theorem wi_27 : Cond.methodLink "RingMachine" 28 ⟨"RingMachine$Memory", "<init>", "(LRingMachine$Fault;LRingMachine$Registers;)V"⟩ ∈ xw_T := xw_Tin (List.mem_append_right _ (List.mem_of_getElem? (i := 131) (by decide +kernel))) rfl
theorem wi_28 : Cond.classLink "RingMachine" 35 "RingMachine$Descriptor" ∈ xw_T := xw_Tin (List.mem_append_right _ (List.mem_of_getElem? (i := 150) (by decide +kernel))) rfl
theorem wi_29 : Cond.methodLinkNest "RingMachine" 37 ⟨"RingMachine$Descriptor", "<init>", "()V"⟩ "RingMachine" ∈ xw_T := xw_Tin (List.mem_append_right _ (List.mem_of_getElem? (i := 151) (by decide +kernel))) rfl
theorem wi_30 : Cond.arrayClass .boolean ∈ xw_T := xw_Tin (List.mem_append_right _ (List.mem_of_getElem? (i := 600) (by decide +kernel))) rfl
theorem cz_0 : (0 : Int32).toNatClampNeg = 0 := by decide +kernel
theorem cz_1 : (1 : Int32).toNatClampNeg = 1 := by decide +kernel
theorem cz_2 : (2 : Int32).toNatClampNeg = 2 := by decide +kernel
theorem cz_7 : (7 : Int32).toNatClampNeg = 7 := by decide +kernel
theorem cz_8 : (8 : Int32).toNatClampNeg = 8 := by decide +kernel
theorem cz_9 : (9 : Int32).toNatClampNeg = 9 := by decide +kernel
theorem cz_10 : (10 : Int32).toNatClampNeg = 10 := by decide +kernel
theorem cz_11 : (11 : Int32).toNatClampNeg = 11 := by decide +kernel
theorem cz_12 : (12 : Int32).toNatClampNeg = 12 := by decide +kernel
theorem cz_13 : (13 : Int32).toNatClampNeg = 13 := by decide +kernel
theorem cz_14 : (14 : Int32).toNatClampNeg = 14 := by decide +kernel
theorem cz_18 : (18 : Int32).toNatClampNeg = 18 := by decide +kernel
theorem cz_23 : (23 : Int32).toNatClampNeg = 23 := by decide +kernel
theorem cz_26 : (26 : Int32).toNatClampNeg = 26 := by decide +kernel
theorem cz_2048 : (2048 : Int32).toNatClampNeg = 2048 := by decide +kernel
theorem vz_0_26 : vp_in (0 : Int32) 26 := vi_c _ _ (by decide +kernel)
theorem vz_1_26 : vp_in (1 : Int32) 26 := vi_c _ _ (by decide +kernel)
theorem vz_2_26 : vp_in (2 : Int32) 26 := vi_c _ _ (by decide +kernel)
theorem vz_9_26 : vp_in (9 : Int32) 26 := vi_c _ _ (by decide +kernel)
theorem vz_10_26 : vp_in (10 : Int32) 26 := vi_c _ _ (by decide +kernel)
theorem vz_11_26 : vp_in (11 : Int32) 26 := vi_c _ _ (by decide +kernel)
theorem vz_12_26 : vp_in (12 : Int32) 26 := vi_c _ _ (by decide +kernel)
theorem vz_13_26 : vp_in (13 : Int32) 26 := vi_c _ _ (by decide +kernel)
theorem vz_14_26 : vp_in (14 : Int32) 26 := vi_c _ _ (by decide +kernel)
theorem vz_18_26 : vp_in (18 : Int32) 26 := vi_c _ _ (by decide +kernel)
theorem vz_23_26 : vp_in (23 : Int32) 26 := vi_c _ _ (by decide +kernel)
theorem az_9_0 : (9 : Int32) + (0 : Int32) = (9 : Int32) := by decide +kernel
theorem az_9_1 : (9 : Int32) + (1 : Int32) = (10 : Int32) := by decide +kernel
theorem az_9_2 : (9 : Int32) + (2 : Int32) = (11 : Int32) := by decide +kernel
theorem az_12_0 : (12 : Int32) + (0 : Int32) = (12 : Int32) := by decide +kernel
theorem az_12_1 : (12 : Int32) + (1 : Int32) = (13 : Int32) := by decide +kernel
theorem az_12_2 : (12 : Int32) + (2 : Int32) = (14 : Int32) := by decide +kernel
theorem iz_0_1 : (0 : Int32) + Int32.ofInt (1) = (1 : Int32) := by decide +kernel
theorem iz_1_1 : (1 : Int32) + Int32.ofInt (1) = (2 : Int32) := by decide +kernel
theorem iz_2_1 : (2 : Int32) + Int32.ofInt (1) = (3 : Int32) := by decide +kernel
theorem xw_iaddc {κ : Nat → Nat × Nat} {l : Launch} {M : xw_M} {pc pc' : Nat} {L : List (Option Value)} {S : List Value} {w : xw_W} {E : xw_O × xw_W} {x y z : Int32} (h : xw_dec M.2.1 pc .iadd 1 pc') (hv : x + y = z) (k : xw_w κ l M pc' L (.int z :: S) w E) : xw_w κ l M pc L (.int y :: .int x :: S) w E := by
  subst hv
  exact xw_iadd h k
theorem mx_init {l : Launch} {N n u i : Nat} {σ : xs_S} {ρ : xs_R} (hl : l.stackTraces = false) : xm_m (xk_k N) l tx_init [.ref i] (n, u, σ, ρ) (.inl none, (n, u, σ, ρ)) := by
  refine xm_of hl ok_x_init (Nat.le_of_ble_eq_true rfl) ?_
  show xw_w (xk_k N) l tx_init 0 [some (.ref i)] [] (n, u, σ, ρ) (.inl none, (n, u, σ, ρ))
  refine xw_aload0 dx_init_0 ?_
  refine xw_obj dx_init_1 ol_x_1 ow_i ow_c (by decide) ?_
  exact xw_vret dx_init_4 rfl
theorem md_init {l : Launch} {N n u i : Nat} {σ : xs_S} {ρ : xs_R} (hl : l.stackTraces = false) : xm_m (xk_k N) l td_init [.ref i] (n, u, σ, ρ) (.inl none, (n, u, σ, ρ)) := by
  refine xm_of hl ok_d_init (Nat.le_of_ble_eq_true rfl) ?_
  show xw_w (xk_k N) l td_init 0 [some (.ref i)] [] (n, u, σ, ρ) (.inl none, (n, u, σ, ρ))
  refine xw_aload0 dd_init_0 ?_
  refine xw_obj dd_init_1 ol_d_3 ow_i ow_c (by decide) ?_
  exact xw_vret dd_init_4 rfl
def xe_i (n u : Nat) (ρ : xs_R) (σ : xs_S) : xw_O × xw_W := (.inl none, (n, u, σ, ρ))
set_option maxRecDepth 100000 in
set_option maxHeartbeats 4000000 in
theorem md_flatr {l : Launch} {N n u : Nat} {c : Nat} {a1 : Int32} {a2 : Int32} {σ : xs_S} {ρ : xs_R} (hl : l.stackTraces = false) (h0_c : 0 < c) (hi_c : c < n) (hk_c : xk_k N c = (0, 0)) : xm_m (xk_k N) l td_flat [.ref c, .int a1, .int a2] (n, u, σ, ρ) (xe_i n u ρ (fd_flat c a1 a2 σ)) := by
  refine xm_of hl ok_d_flat (Nat.le_of_ble_eq_true rfl) ?_
  show xw_w (xk_k N) l td_flat 0 [some (.ref c), some (.int a1), some (.int a2)] [] (n, u, σ, ρ) (xe_i n u ρ (fd_flat c a1 a2 σ))
  unfold fd_flat
  refine xw_aload0 dd_flat_0 ?_
  refine xw_iload1 dd_flat_1 ?_
  refine xw_putI dd_flat_2 fl_d_9 nf_0_0 h0_c hi_c hk_c ?_
  refine xw_lw (fun s1 e_s1 => ?_)
  refine xw_aload0 dd_flat_5 ?_
  refine xw_iload2 dd_flat_6 ?_
  refine xw_putI dd_flat_7 fl_d_22 nf_0_3 h0_c hi_c hk_c ?_
  refine xw_lw (fun s2 e_s2 => ?_)
  refine xw_aload0 dd_flat_10 ?_
  refine xw_sipush dd_flat_11 ks_4095 ?_
  refine xw_putI dd_flat_14 fl_d_19 nf_0_2 h0_c hi_c hk_c ?_
  refine xw_lw (fun s3 e_s3 => ?_)
  refine xw_aload0 dd_flat_17 ?_
  refine xw_iconst dd_flat_18 ki_1 ?_
  refine xw_putZ dd_flat_19 fl_d_28 nf_0_6 h0_c hi_c hk_c ?_
  refine xw_lw (fun s4 e_s4 => ?_)
  exact xw_vret dd_flat_22 rfl
def sg_init_3 (σ : xs_S) : xs_S := (xu_u (xu_u (fd_flat 6 (8 : Int32) (4 : Int32) (fd_flat 5 (8 : Int32) (4 : Int32) (fd_flat 4 (4 : Int32) (1 : Int32) (xu_z (xu_z (xu_z σ 4) 5) 6)))) 3 3 (512 : Int32)) 3 8 (1024 : Int32))
def rg_init_3 (ρ : xs_R) : xs_R := (xu_r (xu_n (xu_r (xu_n (xu_r (xu_n ρ 4) 3 0 (some 4)) 5) 3 1 (some 5)) 6) 3 2 (some 6))
set_option maxRecDepth 100000 in
set_option maxHeartbeats 4000000 in
theorem mg_init_3 {l : Launch} {N u : Nat} {σ : xs_S} {ρ : xs_R} (hl : l.stackTraces = false) : xm_m (xk_k N) l tg_init [.ref 3] (4, u, σ, ρ) (.inl none, (7, u + 21, sg_init_3 σ, rg_init_3 ρ)) := by
  refine xm_of hl ok_g_init (Nat.le_of_ble_eq_true rfl) ?_
  show xw_w (xk_k N) l tg_init 0 [some (.ref 3)] [] (4, u, σ, ρ) (.inl none, (7, u + 21, sg_init_3 σ, rg_init_3 ρ))
  refine xw_aload0 dg_init_0 ?_
  refine xw_obj dg_init_1 ol_g_3 ow_i ow_c (by decide) ?_
  refine xw_aload0 dg_init_4 ?_
  refine xw_new (ci := 0) (C := "RingMachine$Descriptor") (T := xc_F0) (N := 7) dg_init_5 rfl wi_0 wi_1 wi_2 rfl ?_
  refine xw_dup dg_init_8 rfl ?_
  refine xw_c0 dg_init_9 (xw_lkN (As := []) dg_init_9.1 rfl wi_5 wi_3 ok_d_init wi_4 pd_6) ok_d_init (md_init hl) ⟨Nat.le_of_ble_eq_true rfl, Nat.le_of_ble_eq_true rfl⟩ ?_
  refine xw_putF dg_init_12 fl_g_12 (fun q h => by cases h; exact ⟨rfl, rfl⟩) rfl (by decide) (by decide) rfl ?_
  refine xw_aload0 dg_init_15 ?_
  refine xw_new (ci := 0) (C := "RingMachine$Descriptor") (T := xc_F0) (N := 7) dg_init_16 rfl wi_0 wi_1 wi_2 rfl ?_
  refine xw_dup dg_init_19 rfl ?_
  refine xw_c0 dg_init_20 (xw_lkN (As := []) dg_init_20.1 rfl wi_5 wi_3 ok_d_init wi_4 pd_6) ok_d_init (md_init hl) ⟨Nat.le_of_ble_eq_true rfl, Nat.le_of_ble_eq_true rfl⟩ ?_
  refine xw_putF dg_init_23 fl_g_18 (fun q h => by cases h; exact ⟨rfl, rfl⟩) rfl (by decide) (by decide) rfl ?_
  refine xw_aload0 dg_init_26 ?_
  refine xw_new (ci := 0) (C := "RingMachine$Descriptor") (T := xc_F0) (N := 7) dg_init_27 rfl wi_0 wi_1 wi_2 rfl ?_
  refine xw_dup dg_init_30 rfl ?_
  refine xw_c0 dg_init_31 (xw_lkN (As := []) dg_init_31.1 rfl wi_5 wi_3 ok_d_init wi_4 pd_6) ok_d_init (md_init hl) ⟨Nat.le_of_ble_eq_true rfl, Nat.le_of_ble_eq_true rfl⟩ ?_
  refine xw_putF dg_init_34 fl_g_21 (fun q h => by cases h; exact ⟨rfl, rfl⟩) rfl (by decide) (by decide) rfl ?_
  refine xw_aload0 dg_init_37 ?_
  refine xw_getR (j := 4) dg_init_38 fl_g_12 (by decide) rfl rfl ?_
  refine xw_iconst dg_init_41 ki_4 ?_
  refine xw_iconst dg_init_42 ki_1 ?_
  refine xw_c0 dg_init_43 (xw_lkV (As := [.int (4 : Int32), .int (1 : Int32)]) (q := ("RingMachine$Descriptor", xc_F0, 7)) dg_init_43.1 wi_6 wi_7 wi_8 ok_d_flat pd_5 (Nat.le_of_ble_eq_true rfl) rfl rfl rfl) ok_d_flat (md_flatr hl (by decide) (by decide) rfl) ⟨Nat.le_of_ble_eq_true rfl, Nat.le_of_ble_eq_true rfl⟩ ?_
  refine xw_aload0 dg_init_46 ?_
  refine xw_getR (j := 5) dg_init_47 fl_g_18 (by decide) rfl rfl ?_
  refine xw_bipush dg_init_50 kb_8 ?_
  refine xw_iconst dg_init_52 ki_4 ?_
  refine xw_c0 dg_init_53 (xw_lkV (As := [.int (8 : Int32), .int (4 : Int32)]) (q := ("RingMachine$Descriptor", xc_F0, 7)) dg_init_53.1 wi_6 wi_7 wi_8 ok_d_flat pd_5 (Nat.le_of_ble_eq_true rfl) rfl rfl rfl) ok_d_flat (md_flatr hl (by decide) (by decide) rfl) ⟨Nat.le_of_ble_eq_true rfl, Nat.le_of_ble_eq_true rfl⟩ ?_
  refine xw_aload0 dg_init_56 ?_
  refine xw_getR (j := 6) dg_init_57 fl_g_21 (by decide) rfl rfl ?_
  refine xw_bipush dg_init_60 kb_8 ?_
  refine xw_iconst dg_init_62 ki_4 ?_
  refine xw_c0 dg_init_63 (xw_lkV (As := [.int (8 : Int32), .int (4 : Int32)]) (q := ("RingMachine$Descriptor", xc_F0, 7)) dg_init_63.1 wi_6 wi_7 wi_8 ok_d_flat pd_5 (Nat.le_of_ble_eq_true rfl) rfl rfl rfl) ok_d_flat (md_flatr hl (by decide) (by decide) rfl) ⟨Nat.le_of_ble_eq_true rfl, Nat.le_of_ble_eq_true rfl⟩ ?_
  refine xw_aload0 dg_init_66 ?_
  refine xw_sipush dg_init_67 ks_512 ?_
  refine xw_putI dg_init_70 fl_g_28 nf_3_3 (by decide) (by decide) rfl ?_
  refine xw_aload0 dg_init_73 ?_
  refine xw_sipush dg_init_74 ks_1024 ?_
  refine xw_putI dg_init_77 fl_g_32 nf_3_8 (by decide) (by decide) rfl ?_
  exact xw_vret dg_init_80 rfl
def sg_init_7 (σ : xs_S) : xs_S := (xu_u (xu_u (fd_flat 10 (8 : Int32) (4 : Int32) (fd_flat 9 (8 : Int32) (4 : Int32) (fd_flat 8 (4 : Int32) (1 : Int32) (xu_z (xu_z (xu_z σ 8) 9) 10)))) 7 3 (512 : Int32)) 7 8 (1024 : Int32))
def rg_init_7 (ρ : xs_R) : xs_R := (xu_r (xu_n (xu_r (xu_n (xu_r (xu_n ρ 8) 7 0 (some 8)) 9) 7 1 (some 9)) 10) 7 2 (some 10))
set_option maxRecDepth 100000 in
set_option maxHeartbeats 4000000 in
theorem mg_init_7 {l : Launch} {N u : Nat} {σ : xs_S} {ρ : xs_R} (hl : l.stackTraces = false) : xm_m (xk_k N) l tg_init [.ref 7] (8, u, σ, ρ) (.inl none, (11, u + 21, sg_init_7 σ, rg_init_7 ρ)) := by
  refine xm_of hl ok_g_init (Nat.le_of_ble_eq_true rfl) ?_
  show xw_w (xk_k N) l tg_init 0 [some (.ref 7)] [] (8, u, σ, ρ) (.inl none, (11, u + 21, sg_init_7 σ, rg_init_7 ρ))
  refine xw_aload0 dg_init_0 ?_
  refine xw_obj dg_init_1 ol_g_3 ow_i ow_c (by decide) ?_
  refine xw_aload0 dg_init_4 ?_
  refine xw_new (ci := 0) (C := "RingMachine$Descriptor") (T := xc_F0) (N := 7) dg_init_5 rfl wi_0 wi_1 wi_2 rfl ?_
  refine xw_dup dg_init_8 rfl ?_
  refine xw_c0 dg_init_9 (xw_lkN (As := []) dg_init_9.1 rfl wi_5 wi_3 ok_d_init wi_4 pd_6) ok_d_init (md_init hl) ⟨Nat.le_of_ble_eq_true rfl, Nat.le_of_ble_eq_true rfl⟩ ?_
  refine xw_putF dg_init_12 fl_g_12 (fun q h => by cases h; exact ⟨rfl, rfl⟩) rfl (by decide) (by decide) rfl ?_
  refine xw_aload0 dg_init_15 ?_
  refine xw_new (ci := 0) (C := "RingMachine$Descriptor") (T := xc_F0) (N := 7) dg_init_16 rfl wi_0 wi_1 wi_2 rfl ?_
  refine xw_dup dg_init_19 rfl ?_
  refine xw_c0 dg_init_20 (xw_lkN (As := []) dg_init_20.1 rfl wi_5 wi_3 ok_d_init wi_4 pd_6) ok_d_init (md_init hl) ⟨Nat.le_of_ble_eq_true rfl, Nat.le_of_ble_eq_true rfl⟩ ?_
  refine xw_putF dg_init_23 fl_g_18 (fun q h => by cases h; exact ⟨rfl, rfl⟩) rfl (by decide) (by decide) rfl ?_
  refine xw_aload0 dg_init_26 ?_
  refine xw_new (ci := 0) (C := "RingMachine$Descriptor") (T := xc_F0) (N := 7) dg_init_27 rfl wi_0 wi_1 wi_2 rfl ?_
  refine xw_dup dg_init_30 rfl ?_
  refine xw_c0 dg_init_31 (xw_lkN (As := []) dg_init_31.1 rfl wi_5 wi_3 ok_d_init wi_4 pd_6) ok_d_init (md_init hl) ⟨Nat.le_of_ble_eq_true rfl, Nat.le_of_ble_eq_true rfl⟩ ?_
  refine xw_putF dg_init_34 fl_g_21 (fun q h => by cases h; exact ⟨rfl, rfl⟩) rfl (by decide) (by decide) rfl ?_
  refine xw_aload0 dg_init_37 ?_
  refine xw_getR (j := 8) dg_init_38 fl_g_12 (by decide) rfl rfl ?_
  refine xw_iconst dg_init_41 ki_4 ?_
  refine xw_iconst dg_init_42 ki_1 ?_
  refine xw_c0 dg_init_43 (xw_lkV (As := [.int (4 : Int32), .int (1 : Int32)]) (q := ("RingMachine$Descriptor", xc_F0, 7)) dg_init_43.1 wi_6 wi_7 wi_8 ok_d_flat pd_5 (Nat.le_of_ble_eq_true rfl) rfl rfl rfl) ok_d_flat (md_flatr hl (by decide) (by decide) rfl) ⟨Nat.le_of_ble_eq_true rfl, Nat.le_of_ble_eq_true rfl⟩ ?_
  refine xw_aload0 dg_init_46 ?_
  refine xw_getR (j := 9) dg_init_47 fl_g_18 (by decide) rfl rfl ?_
  refine xw_bipush dg_init_50 kb_8 ?_
  refine xw_iconst dg_init_52 ki_4 ?_
  refine xw_c0 dg_init_53 (xw_lkV (As := [.int (8 : Int32), .int (4 : Int32)]) (q := ("RingMachine$Descriptor", xc_F0, 7)) dg_init_53.1 wi_6 wi_7 wi_8 ok_d_flat pd_5 (Nat.le_of_ble_eq_true rfl) rfl rfl rfl) ok_d_flat (md_flatr hl (by decide) (by decide) rfl) ⟨Nat.le_of_ble_eq_true rfl, Nat.le_of_ble_eq_true rfl⟩ ?_
  refine xw_aload0 dg_init_56 ?_
  refine xw_getR (j := 10) dg_init_57 fl_g_21 (by decide) rfl rfl ?_
  refine xw_bipush dg_init_60 kb_8 ?_
  refine xw_iconst dg_init_62 ki_4 ?_
  refine xw_c0 dg_init_63 (xw_lkV (As := [.int (8 : Int32), .int (4 : Int32)]) (q := ("RingMachine$Descriptor", xc_F0, 7)) dg_init_63.1 wi_6 wi_7 wi_8 ok_d_flat pd_5 (Nat.le_of_ble_eq_true rfl) rfl rfl rfl) ok_d_flat (md_flatr hl (by decide) (by decide) rfl) ⟨Nat.le_of_ble_eq_true rfl, Nat.le_of_ble_eq_true rfl⟩ ?_
  refine xw_aload0 dg_init_66 ?_
  refine xw_sipush dg_init_67 ks_512 ?_
  refine xw_putI dg_init_70 fl_g_28 nf_3_3 (by decide) (by decide) rfl ?_
  refine xw_aload0 dg_init_73 ?_
  refine xw_sipush dg_init_74 ks_1024 ?_
  refine xw_putI dg_init_77 fl_g_32 nf_3_8 (by decide) (by decide) rfl ?_
  exact xw_vret dg_init_80 rfl
def sm_init (σ : xs_S) : xs_S := (xu_z σ 12)
def rm_init (ρ : xs_R) : xs_R := (xu_r (xu_n (xu_r (xu_r ρ 11 0 (some 2)) 11 1 (some 3)) 12) 11 2 (some 12))
set_option maxRecDepth 100000 in
set_option maxHeartbeats 4000000 in
theorem mm_init {l : Launch} {N u : Nat} {σ : xs_S} {ρ : xs_R} (hl : l.stackTraces = false) : xm_m (xk_k N) l tm_init [.ref 11, .ref 2, .ref 3] (12, u, σ, ρ) (.inl none, (13, u + 2048, sm_init σ, rm_init ρ)) := by
  refine xm_of hl ok_m_init (Nat.le_of_ble_eq_true rfl) ?_
  show xw_w (xk_k N) l tm_init 0 [some (.ref 11), some (.ref 2), some (.ref 3)] [] (12, u, σ, ρ) (.inl none, (13, u + 2048, sm_init σ, rm_init ρ))
  refine xw_aload0 dm_init_0 ?_
  refine xw_obj dm_init_1 ol_m_3 ow_i ow_c (by decide) ?_
  refine xw_aload0 dm_init_4 ?_
  refine xw_aload1 dm_init_5 ?_
  refine xw_putF dm_init_6 fl_m_9 (fun q h => by cases h; exact ⟨rfl, rfl⟩) rfl (by decide) (by decide) rfl ?_
  refine xw_aload0 dm_init_9 ?_
  refine xw_aload2 dm_init_10 ?_
  refine xw_putF dm_init_11 fl_m_15 (fun q h => by cases h; exact ⟨rfl, rfl⟩) rfl (by decide) (by decide) rfl ?_
  refine xw_aload0 dm_init_14 ?_
  refine xw_sipush dm_init_15 ks_2048 ?_
  refine xw_newa (j := 1) (ty := .int) dm_init_18 rfl (Or.inl ⟨rfl, rfl⟩) wi_9 (by decide) cz_2048 (by decide) rfl ?_
  refine xw_putF dm_init_20 fl_m_19 (fun q h => by cases h; exact ⟨rfl, rfl⟩) rfl (by decide) (by decide) rfl ?_
  exact xw_vret dm_init_23 rfl
def sr_init (σ : xs_S) : xs_S := (xu_z (xu_z (xu_z (xu_z (xu_z (sm_init (xu_z (sg_init_7 (xu_z (sg_init_3 (xu_z (xu_z σ 2) 3)) 7)) 11)) 13) 14) 15) 16) 17)
def rr_init (ρ : xs_R) : xs_R := (xu_r (xu_n (xu_r (xu_n (xu_r (xu_n (xu_r (xu_n (xu_r (xu_n (xu_r (rm_init (xu_n (xu_r (rg_init_7 (xu_n (xu_r (rg_init_3 (xu_n (xu_r (xu_n ρ 2) 1 0 (some 2)) 3)) 1 1 (some 3)) 7)) 1 2 (some 7)) 11)) 1 3 (some 11)) 13) 1 4 (some 13)) 14) 1 5 (some 14)) 15) 1 6 (some 15)) 16) 1 7 (some 16)) 17) 1 8 (some 17))
set_option maxRecDepth 100000 in
set_option maxHeartbeats 4000000 in
theorem mr_init {l : Launch} {N u : Nat} {σ : xs_S} {ρ : xs_R} (hl : l.stackTraces = false) : xm_m (xk_k N) l tr_init [.ref 1] (2, u, σ, ρ) (.inl none, (18, u + 2155, sr_init σ, rr_init ρ)) := by
  refine xm_of hl ok_r_init (Nat.le_of_ble_eq_true rfl) ?_
  show xw_w (xk_k N) l tr_init 0 [some (.ref 1)] [] (2, u, σ, ρ) (.inl none, (18, u + 2155, sr_init σ, rr_init ρ))
  refine xw_aload0 dr_init_0 ?_
  refine xw_obj dr_init_1 ol_r_1 ow_i ow_c (by decide) ?_
  refine xw_aload0 dr_init_4 ?_
  refine xw_new (ci := 1) (C := "RingMachine$Fault") (T := xc_F1) (N := 3) dr_init_5 rfl wi_10 wi_11 wi_12 rfl ?_
  refine xw_dup dr_init_8 rfl ?_
  refine xw_c0 dr_init_9 (xw_lkN (As := []) dr_init_9.1 rfl wi_15 wi_13 ok_x_init wi_14 pd_6) ok_x_init (mx_init hl) ⟨Nat.le_of_ble_eq_true rfl, Nat.le_of_ble_eq_true rfl⟩ ?_
  refine xw_putF dr_init_12 fl_r_10 (fun q h => by cases h; exact ⟨rfl, rfl⟩) rfl (by decide) (by decide) rfl ?_
  refine xw_aload0 dr_init_15 ?_
  refine xw_new (ci := 3) (C := "RingMachine$Registers") (T := xc_F3) (N := 11) dr_init_16 rfl wi_16 wi_17 wi_18 rfl ?_
  refine xw_dup dr_init_19 rfl ?_
  refine xw_c0 dr_init_20 (xw_lkI (As := []) dr_init_20.1 rfl wi_21 wi_19 ok_g_init wi_20 pd_6) ok_g_init (mg_init_3 hl) ⟨Nat.le_of_ble_eq_true rfl, Nat.le_of_ble_eq_true rfl⟩ ?_
  refine xw_putF dr_init_23 fl_r_19 (fun q h => by cases h; exact ⟨rfl, rfl⟩) rfl (by decide) (by decide) rfl ?_
  refine xw_aload0 dr_init_26 ?_
  refine xw_new (ci := 3) (C := "RingMachine$Registers") (T := xc_F3) (N := 11) dr_init_27 rfl wi_16 wi_17 wi_18 rfl ?_
  refine xw_dup dr_init_30 rfl ?_
  refine xw_c0 dr_init_31 (xw_lkI (As := []) dr_init_31.1 rfl wi_21 wi_19 ok_g_init wi_20 pd_6) ok_g_init (mg_init_7 hl) ⟨Nat.le_of_ble_eq_true rfl, Nat.le_of_ble_eq_true rfl⟩ ?_
  refine xw_putF dr_init_34 fl_r_23 (fun q h => by cases h; exact ⟨rfl, rfl⟩) rfl (by decide) (by decide) rfl ?_
  refine xw_aload0 dr_init_37 ?_
  refine xw_new (ci := 2) (C := "RingMachine$Memory") (T := xc_F2) (N := 4) dr_init_38 rfl wi_22 wi_23 wi_24 rfl ?_
  refine xw_dup dr_init_41 rfl ?_
  refine xw_aload0 dr_init_42 ?_
  refine xw_getR (j := 2) dr_init_43 fl_r_10 (by decide) rfl rfl ?_
  refine xw_aload0 dr_init_46 ?_
  refine xw_getR (j := 3) dr_init_47 fl_r_19 (by decide) rfl rfl ?_
  refine xw_c0 dr_init_50 (xw_lkI (As := [.ref 2, .ref 3]) dr_init_50.1 rfl wi_27 wi_25 ok_m_init wi_26 pd_8) ok_m_init (mm_init hl) ⟨Nat.le_of_ble_eq_true rfl, Nat.le_of_ble_eq_true rfl⟩ ?_
  refine xw_putF dr_init_53 fl_r_31 (fun q h => by cases h; exact ⟨rfl, rfl⟩) rfl (by decide) (by decide) rfl ?_
  refine xw_aload0 dr_init_56 ?_
  refine xw_new (ci := 0) (C := "RingMachine$Descriptor") (T := xc_F0) (N := 7) dr_init_57 rfl wi_28 wi_1 wi_2 rfl ?_
  refine xw_dup dr_init_60 rfl ?_
  refine xw_c0 dr_init_61 (xw_lkN (As := []) dr_init_61.1 rfl wi_29 wi_3 ok_d_init wi_4 pd_6) ok_d_init (md_init hl) ⟨Nat.le_of_ble_eq_true rfl, Nat.le_of_ble_eq_true rfl⟩ ?_
  refine xw_putF dr_init_64 fl_r_38 (fun q h => by cases h; exact ⟨rfl, rfl⟩) rfl (by decide) (by decide) rfl ?_
  refine xw_aload0 dr_init_67 ?_
  refine xw_new (ci := 0) (C := "RingMachine$Descriptor") (T := xc_F0) (N := 7) dr_init_68 rfl wi_28 wi_1 wi_2 rfl ?_
  refine xw_dup dr_init_71 rfl ?_
  refine xw_c0 dr_init_72 (xw_lkN (As := []) dr_init_72.1 rfl wi_29 wi_3 ok_d_init wi_4 pd_6) ok_d_init (md_init hl) ⟨Nat.le_of_ble_eq_true rfl, Nat.le_of_ble_eq_true rfl⟩ ?_
  refine xw_putF dr_init_75 fl_r_42 (fun q h => by cases h; exact ⟨rfl, rfl⟩) rfl (by decide) (by decide) rfl ?_
  refine xw_aload0 dr_init_78 ?_
  refine xw_new (ci := 0) (C := "RingMachine$Descriptor") (T := xc_F0) (N := 7) dr_init_79 rfl wi_28 wi_1 wi_2 rfl ?_
  refine xw_dup dr_init_82 rfl ?_
  refine xw_c0 dr_init_83 (xw_lkN (As := []) dr_init_83.1 rfl wi_29 wi_3 ok_d_init wi_4 pd_6) ok_d_init (md_init hl) ⟨Nat.le_of_ble_eq_true rfl, Nat.le_of_ble_eq_true rfl⟩ ?_
  refine xw_putF dr_init_86 fl_r_45 (fun q h => by cases h; exact ⟨rfl, rfl⟩) rfl (by decide) (by decide) rfl ?_
  refine xw_aload0 dr_init_89 ?_
  refine xw_bipush dr_init_90 kb_8 ?_
  refine xw_newa (j := 1) (ty := .int) dr_init_92 rfl (Or.inl ⟨rfl, rfl⟩) wi_9 (by decide) cz_8 (by decide) rfl ?_
  refine xw_putF dr_init_94 fl_r_48 (fun q h => by cases h; exact ⟨rfl, rfl⟩) rfl (by decide) (by decide) rfl ?_
  refine xw_aload0 dr_init_97 ?_
  refine xw_bipush dr_init_98 kb_7 ?_
  refine xw_newa (j := 1) (ty := .int) dr_init_100 rfl (Or.inl ⟨rfl, rfl⟩) wi_9 (by decide) cz_7 (by decide) rfl ?_
  refine xw_putF dr_init_102 fl_r_52 (fun q h => by cases h; exact ⟨rfl, rfl⟩) rfl (by decide) (by decide) rfl ?_
  exact xw_vret dr_init_105 rfl
def sy_init (σ : xs_S) : xs_S := (xu_u (xu_u (xu_u (xu_u (xu_u (xu_u (xu_u (xu_u (xu_u (xu_u (xu_u (xu_z (xu_z (xu_z (xu_z (xu_z (xu_z (xu_z (xu_u (xu_z (xu_z (xu_z σ 19) 20) 21) 18 9 (-1 : Int32)) 22) 23) 24) 25) 26) 27) 28) 20 0 (4 : Int32)) 20 1 (8 : Int32)) 20 2 (8 : Int32)) 20 9 (4095 : Int32)) 20 12 (1 : Int32)) 20 10 (4095 : Int32)) 20 13 (4 : Int32)) 20 11 (4095 : Int32)) 20 14 (4 : Int32)) 20 18 (512 : Int32)) 20 23 (1024 : Int32))
def ry_init (ρ : xs_R) : xs_R := (xu_r (xu_n (xu_r (xu_n (xu_r (xu_n (xu_r (xu_n (xu_r (xu_n (xu_r (xu_n (xu_r (xu_n (xu_r (xu_n (xu_r (xu_n (xu_r (xu_n ρ 19) 18 0 (some 19)) 20) 18 5 (some 20)) 21) 18 6 (some 21)) 22) 18 12 (some 22)) 23) 18 13 (some 23)) 24) 18 14 (some 24)) 25) 18 15 (some 25)) 26) 18 16 (some 26)) 27) 18 17 (some 27)) 28) 18 18 (some 28))
set_option maxRecDepth 100000 in
set_option maxHeartbeats 4000000 in
theorem my_init {l : Launch} {N u : Nat} {σ : xs_S} {ρ : xs_R} (hl : l.stackTraces = false) : xm_m (xk_k N) l ty_init [.ref 18] (19, u, σ, ρ) (.inl none, (29, u + 2120, sy_init σ, ry_init ρ)) := by
  refine xm_of hl ok_y_init (Nat.le_of_ble_eq_true rfl) ?_
  show xw_w (xk_k N) l ty_init 0 [some (.ref 18), none] [] (19, u, σ, ρ) (.inl none, (29, u + 2120, sy_init σ, ry_init ρ))
  refine xw_aload0 dy_init_0 ?_
  refine xw_obj dy_init_1 ol_y_1 ow_i ow_c (by decide) ?_
  refine xw_aload0 dy_init_4 ?_
  refine xw_sipush dy_init_5 ks_2048 ?_
  refine xw_newa (j := 1) (ty := .int) dy_init_8 rfl (Or.inl ⟨rfl, rfl⟩) wi_9 (by decide) cz_2048 (by decide) rfl ?_
  refine xw_putR dy_init_10 fl_y_7 nf_5_0 (by decide) (by decide) rfl ?_
  refine xw_aload0 dy_init_13 ?_
  refine xw_bipush dy_init_14 kb_26 ?_
  refine xw_newa (j := 1) (ty := .int) dy_init_16 rfl (Or.inl ⟨rfl, rfl⟩) wi_9 (by decide) cz_26 (by decide) rfl ?_
  refine xw_putR dy_init_18 fl_y_13 nf_5_5 (by decide) (by decide) rfl ?_
  refine xw_aload0 dy_init_21 ?_
  refine xw_bipush dy_init_22 kb_26 ?_
  refine xw_newa (j := 1) (ty := .int) dy_init_24 rfl (Or.inl ⟨rfl, rfl⟩) wi_9 (by decide) cz_26 (by decide) rfl ?_
  refine xw_putR dy_init_26 fl_y_16 nf_5_6 (by decide) (by decide) rfl ?_
  refine xw_aload0 dy_init_29 ?_
  refine xw_iconst dy_init_30 ki_m1 ?_
  refine xw_putI dy_init_31 fl_y_19 nf_5_9 (by decide) (by decide) rfl ?_
  refine xw_aload0 dy_init_34 ?_
  refine xw_iconst dy_init_35 ki_2 ?_
  refine xw_newa (j := 1) (ty := .int) dy_init_36 rfl (Or.inl ⟨rfl, rfl⟩) wi_9 (by decide) cz_2 (by decide) rfl ?_
  refine xw_putR dy_init_38 fl_y_23 nf_5_12 (by decide) (by decide) rfl ?_
  refine xw_aload0 dy_init_41 ?_
  refine xw_iconst dy_init_42 ki_2 ?_
  refine xw_newa (j := 1) (ty := .int) dy_init_43 rfl (Or.inl ⟨rfl, rfl⟩) wi_9 (by decide) cz_2 (by decide) rfl ?_
  refine xw_putR dy_init_45 fl_y_26 nf_5_13 (by decide) (by decide) rfl ?_
  refine xw_aload0 dy_init_48 ?_
  refine xw_iconst dy_init_49 ki_2 ?_
  refine xw_newa (j := 1) (ty := .int) dy_init_50 rfl (Or.inl ⟨rfl, rfl⟩) wi_9 (by decide) cz_2 (by decide) rfl ?_
  refine xw_putR dy_init_52 fl_y_29 nf_5_14 (by decide) (by decide) rfl ?_
  refine xw_aload0 dy_init_55 ?_
  refine xw_iconst dy_init_56 ki_2 ?_
  refine xw_newa (j := 1) (ty := .int) dy_init_57 rfl (Or.inl ⟨rfl, rfl⟩) wi_9 (by decide) cz_2 (by decide) rfl ?_
  refine xw_putR dy_init_59 fl_y_32 nf_5_15 (by decide) (by decide) rfl ?_
  refine xw_aload0 dy_init_62 ?_
  refine xw_iconst dy_init_63 ki_2 ?_
  refine xw_newa (j := 2) (ty := .boolean) dy_init_64 rfl (Or.inr ⟨rfl, rfl⟩) wi_30 (by decide) cz_2 (by decide) rfl ?_
  refine xw_putR dy_init_66 fl_y_35 nf_5_16 (by decide) (by decide) rfl ?_
  refine xw_aload0 dy_init_69 ?_
  refine xw_iconst dy_init_70 ki_2 ?_
  refine xw_newa (j := 1) (ty := .int) dy_init_71 rfl (Or.inl ⟨rfl, rfl⟩) wi_9 (by decide) cz_2 (by decide) rfl ?_
  refine xw_putR dy_init_73 fl_y_39 nf_5_17 (by decide) (by decide) rfl ?_
  refine xw_aload0 dy_init_76 ?_
  refine xw_bipush dy_init_77 kb_8 ?_
  refine xw_newa (j := 1) (ty := .int) dy_init_79 rfl (Or.inl ⟨rfl, rfl⟩) wi_9 (by decide) cz_8 (by decide) rfl ?_
  refine xw_putR dy_init_81 fl_y_42 nf_5_18 (by decide) (by decide) rfl ?_
  refine xw_aload0 dy_init_84 ?_
  refine xw_getR (j := 20) dy_init_85 fl_y_13 (by decide) rfl rfl ?_
  refine xw_iconst dy_init_88 ki_0 ?_
  refine xw_iconst dy_init_89 ki_4 ?_
  refine xw_iast dy_init_90 (by decide) (by decide) rfl vz_0_26 cz_0 ?_
  refine xw_aload0 dy_init_91 ?_
  refine xw_getR (j := 20) dy_init_92 fl_y_13 (by decide) rfl rfl ?_
  refine xw_iconst dy_init_95 ki_1 ?_
  refine xw_bipush dy_init_96 kb_8 ?_
  refine xw_iast dy_init_98 (by decide) (by decide) rfl vz_1_26 cz_1 ?_
  refine xw_aload0 dy_init_99 ?_
  refine xw_getR (j := 20) dy_init_100 fl_y_13 (by decide) rfl rfl ?_
  refine xw_iconst dy_init_103 ki_2 ?_
  refine xw_bipush dy_init_104 kb_8 ?_
  refine xw_iast dy_init_106 (by decide) (by decide) rfl vz_2_26 cz_2 ?_
  refine xw_iconst dy_init_107 ki_0 ?_
  refine xw_istore1 dy_init_108 (Nat.le_of_ble_eq_true rfl) rfl ?_
  refine xw_iload1 dy_init_109 ?_
  refine xw_iconst dy_init_110 ki_3 ?_
  refine xw_icmp_ge_f dy_init_111 rfl (by decide) ?_
  refine xw_aload0 dy_init_114 ?_
  refine xw_getR (j := 20) dy_init_115 fl_y_13 (by decide) rfl rfl ?_
  refine xw_bipush dy_init_118 kb_9 ?_
  refine xw_iload1 dy_init_120 ?_
  refine xw_iaddc dy_init_121 az_9_0 ?_
  refine xw_sipush dy_init_122 ks_4095 ?_
  refine xw_iast dy_init_125 (by decide) (by decide) rfl vz_9_26 cz_9 ?_
  refine xw_aload0 dy_init_126 ?_
  refine xw_getR (j := 20) dy_init_127 fl_y_13 (by decide) rfl rfl ?_
  refine xw_bipush dy_init_130 kb_12 ?_
  refine xw_iload1 dy_init_132 ?_
  refine xw_iaddc dy_init_133 az_12_0 ?_
  refine xw_iload1 dy_init_134 ?_
  refine xw_if_ne_f dy_init_135 rfl (by decide) ?_
  refine xw_iconst dy_init_138 ki_1 ?_
  refine xw_goto dy_init_139 rfl ?_
  refine xw_iast dy_init_143 (by decide) (by decide) rfl vz_12_26 cz_12 ?_
  refine xw_iinc1 dy_init_144 iz_0_1 (Nat.le_of_ble_eq_true rfl) rfl ?_
  refine xw_goto dy_init_147 rfl ?_
  refine xw_iload1 dy_init_109 ?_
  refine xw_iconst dy_init_110 ki_3 ?_
  refine xw_icmp_ge_f dy_init_111 rfl (by decide) ?_
  refine xw_aload0 dy_init_114 ?_
  refine xw_getR (j := 20) dy_init_115 fl_y_13 (by decide) rfl rfl ?_
  refine xw_bipush dy_init_118 kb_9 ?_
  refine xw_iload1 dy_init_120 ?_
  refine xw_iaddc dy_init_121 az_9_1 ?_
  refine xw_sipush dy_init_122 ks_4095 ?_
  refine xw_iast dy_init_125 (by decide) (by decide) rfl vz_10_26 cz_10 ?_
  refine xw_aload0 dy_init_126 ?_
  refine xw_getR (j := 20) dy_init_127 fl_y_13 (by decide) rfl rfl ?_
  refine xw_bipush dy_init_130 kb_12 ?_
  refine xw_iload1 dy_init_132 ?_
  refine xw_iaddc dy_init_133 az_12_1 ?_
  refine xw_iload1 dy_init_134 ?_
  refine xw_if_ne_t dy_init_135 rfl (by decide) ?_
  refine xw_iconst dy_init_142 ki_4 ?_
  refine xw_iast dy_init_143 (by decide) (by decide) rfl vz_13_26 cz_13 ?_
  refine xw_iinc1 dy_init_144 iz_1_1 (Nat.le_of_ble_eq_true rfl) rfl ?_
  refine xw_goto dy_init_147 rfl ?_
  refine xw_iload1 dy_init_109 ?_
  refine xw_iconst dy_init_110 ki_3 ?_
  refine xw_icmp_ge_f dy_init_111 rfl (by decide) ?_
  refine xw_aload0 dy_init_114 ?_
  refine xw_getR (j := 20) dy_init_115 fl_y_13 (by decide) rfl rfl ?_
  refine xw_bipush dy_init_118 kb_9 ?_
  refine xw_iload1 dy_init_120 ?_
  refine xw_iaddc dy_init_121 az_9_2 ?_
  refine xw_sipush dy_init_122 ks_4095 ?_
  refine xw_iast dy_init_125 (by decide) (by decide) rfl vz_11_26 cz_11 ?_
  refine xw_aload0 dy_init_126 ?_
  refine xw_getR (j := 20) dy_init_127 fl_y_13 (by decide) rfl rfl ?_
  refine xw_bipush dy_init_130 kb_12 ?_
  refine xw_iload1 dy_init_132 ?_
  refine xw_iaddc dy_init_133 az_12_2 ?_
  refine xw_iload1 dy_init_134 ?_
  refine xw_if_ne_t dy_init_135 rfl (by decide) ?_
  refine xw_iconst dy_init_142 ki_4 ?_
  refine xw_iast dy_init_143 (by decide) (by decide) rfl vz_14_26 cz_14 ?_
  refine xw_iinc1 dy_init_144 iz_2_1 (Nat.le_of_ble_eq_true rfl) rfl ?_
  refine xw_goto dy_init_147 rfl ?_
  refine xw_iload1 dy_init_109 ?_
  refine xw_iconst dy_init_110 ki_3 ?_
  refine xw_icmp_ge_t dy_init_111 rfl (by decide) ?_
  refine xw_aload0 dy_init_150 ?_
  refine xw_getR (j := 20) dy_init_151 fl_y_13 (by decide) rfl rfl ?_
  refine xw_bipush dy_init_154 kb_18 ?_
  refine xw_sipush dy_init_156 ks_512 ?_
  refine xw_iast dy_init_159 (by decide) (by decide) rfl vz_18_26 cz_18 ?_
  refine xw_aload0 dy_init_160 ?_
  refine xw_getR (j := 20) dy_init_161 fl_y_13 (by decide) rfl rfl ?_
  refine xw_bipush dy_init_164 kb_23 ?_
  refine xw_sipush dy_init_166 ks_1024 ?_
  refine xw_iast dy_init_169 (by decide) (by decide) rfl vz_23_26 cz_23 ?_
  exact xw_vret dy_init_170 rfl
