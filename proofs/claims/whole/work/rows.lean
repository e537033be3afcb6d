section
-- ===== PART A: goes FIRST, ahead of the names: the tables' words, and 'selects' of the private methods out of them =====
/-- a private method of a class that the tables say can be made, by its rows of tables_1 -/
def lw_okq (q : MethodName × Nat) : Prop := (q.1.cls ≠ "java/lang/invoke/MethodHandle" ∧ q.1.cls ≠ "java/lang/invoke/VarHandle") ∧ Cond.instantiable q.1.cls q.2 ∈ tables_1 ∧ Cond.privateMethod q.1 ∈ tables_1 ∧ Cond.instanceMethod q.1 ∈ tables_1
theorem lw_p0 : lw_okq (⟨"RingMachine", "loadStack", "(I)V"⟩, 13) := ⟨⟨by decide +kernel, by decide +kernel⟩, List.mem_of_getElem? (i := 12) (by decide +kernel), List.mem_of_getElem? (i := 235) (by decide +kernel), List.mem_of_getElem? (i := 236) (by decide +kernel)⟩
theorem lw_p1 : lw_okq (⟨"java/lang/Throwable", "fillInStackTrace", "(I)Ljava/lang/Throwable;"⟩, 6) := ⟨⟨by decide +kernel, by decide +kernel⟩, List.mem_of_getElem? (i := 285) (by decide +kernel), List.mem_of_getElem? (i := 283) (by decide +kernel), List.mem_of_getElem? (i := 284) (by decide +kernel)⟩
theorem lw_p2 : lw_okq (⟨"RingMachine", "lookUp", "(ILRingMachine$Descriptor;)V"⟩, 13) := ⟨⟨by decide +kernel, by decide +kernel⟩, List.mem_of_getElem? (i := 12) (by decide +kernel), List.mem_of_getElem? (i := 310) (by decide +kernel), List.mem_of_getElem? (i := 311) (by decide +kernel)⟩
theorem lw_p3 : lw_okq (⟨"RingMachine", "loadData", "(I)V"⟩, 13) := ⟨⟨by decide +kernel, by decide +kernel⟩, List.mem_of_getElem? (i := 12) (by decide +kernel), List.mem_of_getElem? (i := 337) (by decide +kernel), List.mem_of_getElem? (i := 338) (by decide +kernel)⟩
theorem lw_p4 : lw_okq (⟨"RingMachine", "settle", "()I"⟩, 13) := ⟨⟨by decide +kernel, by decide +kernel⟩, List.mem_of_getElem? (i := 12) (by decide +kernel), List.mem_of_getElem? (i := 354) (by decide +kernel), List.mem_of_getElem? (i := 355) (by decide +kernel)⟩
theorem lw_p5 : lw_okq (⟨"RingMachine", "deliver", "(IZI)V"⟩, 13) := ⟨⟨by decide +kernel, by decide +kernel⟩, List.mem_of_getElem? (i := 12) (by decide +kernel), List.mem_of_getElem? (i := 359) (by decide +kernel), List.mem_of_getElem? (i := 360) (by decide +kernel)⟩
theorem lw_p6 : lw_okq (⟨"RingMachine", "readVectorGate", "(IZ)V"⟩, 13) := ⟨⟨by decide +kernel, by decide +kernel⟩, List.mem_of_getElem? (i := 12) (by decide +kernel), List.mem_of_getElem? (i := 363) (by decide +kernel), List.mem_of_getElem? (i := 364) (by decide +kernel)⟩
theorem lw_p7 : lw_okq (⟨"RingMachine", "findTarget", "(Z)V"⟩, 13) := ⟨⟨by decide +kernel, by decide +kernel⟩, List.mem_of_getElem? (i := 12) (by decide +kernel), List.mem_of_getElem? (i := 367) (by decide +kernel), List.mem_of_getElem? (i := 368) (by decide +kernel)⟩
theorem lw_p8 : lw_okq (⟨"RingMachine", "mayBeEntered", "(LRingMachine$Descriptor;)Z"⟩, 13) := ⟨⟨by decide +kernel, by decide +kernel⟩, List.mem_of_getElem? (i := 12) (by decide +kernel), List.mem_of_getElem? (i := 372) (by decide +kernel), List.mem_of_getElem? (i := 373) (by decide +kernel)⟩
theorem lw_p9 : lw_okq (⟨"RingMachine", "leadsInwards", "()Z"⟩, 13) := ⟨⟨by decide +kernel, by decide +kernel⟩, List.mem_of_getElem? (i := 12) (by decide +kernel), List.mem_of_getElem? (i := 376) (by decide +kernel), List.mem_of_getElem? (i := 377) (by decide +kernel)⟩
theorem lw_p10 : lw_okq (⟨"RingMachine", "findInnerStack", "()I"⟩, 13) := ⟨⟨by decide +kernel, by decide +kernel⟩, List.mem_of_getElem? (i := 12) (by decide +kernel), List.mem_of_getElem? (i := 380) (by decide +kernel), List.mem_of_getElem? (i := 381) (by decide +kernel)⟩
theorem lw_p11 : lw_okq (⟨"RingMachine", "changeStack", "(II)V"⟩, 13) := ⟨⟨by decide +kernel, by decide +kernel⟩, List.mem_of_getElem? (i := 12) (by decide +kernel), List.mem_of_getElem? (i := 388) (by decide +kernel), List.mem_of_getElem? (i := 389) (by decide +kernel)⟩
theorem lw_p12 : lw_okq (⟨"RingMachine", "wordIn", "(II)I"⟩, 13) := ⟨⟨by decide +kernel, by decide +kernel⟩, List.mem_of_getElem? (i := 12) (by decide +kernel), List.mem_of_getElem? (i := 392) (by decide +kernel), List.mem_of_getElem? (i := 393) (by decide +kernel)⟩
theorem lw_p13 : lw_okq (⟨"RingMachine", "checkAccess", "(II)V"⟩, 13) := ⟨⟨by decide +kernel, by decide +kernel⟩, List.mem_of_getElem? (i := 12) (by decide +kernel), List.mem_of_getElem? (i := 396) (by decide +kernel), List.mem_of_getElem? (i := 397) (by decide +kernel)⟩
theorem lw_p14 : lw_okq (⟨"RingMachine", "pushWord", "(I)V"⟩, 13) := ⟨⟨by decide +kernel, by decide +kernel⟩, List.mem_of_getElem? (i := 12) (by decide +kernel), List.mem_of_getElem? (i := 404) (by decide +kernel), List.mem_of_getElem? (i := 405) (by decide +kernel)⟩
theorem lw_p15 : lw_okq (⟨"RingMachine", "next", "()I"⟩, 13) := ⟨⟨by decide +kernel, by decide +kernel⟩, List.mem_of_getElem? (i := 12) (by decide +kernel), List.mem_of_getElem? (i := 413) (by decide +kernel), List.mem_of_getElem? (i := 414) (by decide +kernel)⟩
def lw_privs_1 : List (MethodName × Nat) := [(⟨"RingMachine", "loadStack", "(I)V"⟩, 13), (⟨"java/lang/Throwable", "fillInStackTrace", "(I)Ljava/lang/Throwable;"⟩, 6), (⟨"RingMachine", "lookUp", "(ILRingMachine$Descriptor;)V"⟩, 13), (⟨"RingMachine", "loadData", "(I)V"⟩, 13), (⟨"RingMachine", "settle", "()I"⟩, 13), (⟨"RingMachine", "deliver", "(IZI)V"⟩, 13), (⟨"RingMachine", "readVectorGate", "(IZ)V"⟩, 13), (⟨"RingMachine", "findTarget", "(Z)V"⟩, 13), (⟨"RingMachine", "mayBeEntered", "(LRingMachine$Descriptor;)Z"⟩, 13), (⟨"RingMachine", "leadsInwards", "()Z"⟩, 13), (⟨"RingMachine", "findInnerStack", "()I"⟩, 13), (⟨"RingMachine", "changeStack", "(II)V"⟩, 13), (⟨"RingMachine", "wordIn", "(II)I"⟩, 13), (⟨"RingMachine", "checkAccess", "(II)V"⟩, 13), (⟨"RingMachine", "pushWord", "(I)V"⟩, 13), (⟨"RingMachine", "next", "()I"⟩, 13)]
theorem lw_r1 : ∀ q ∈ lw_privs_1, lw_okq q := List.forall_mem_cons.mpr ⟨lw_p0, List.forall_mem_cons.mpr ⟨lw_p1, List.forall_mem_cons.mpr ⟨lw_p2, List.forall_mem_cons.mpr ⟨lw_p3, List.forall_mem_cons.mpr ⟨lw_p4, List.forall_mem_cons.mpr ⟨lw_p5, List.forall_mem_cons.mpr ⟨lw_p6, List.forall_mem_cons.mpr ⟨lw_p7, List.forall_mem_cons.mpr ⟨lw_p8, List.forall_mem_cons.mpr ⟨lw_p9, List.forall_mem_cons.mpr ⟨lw_p10, List.forall_mem_cons.mpr ⟨lw_p11, List.forall_mem_cons.mpr ⟨lw_p12, List.forall_mem_cons.mpr ⟨lw_p13, List.forall_mem_cons.mpr ⟨lw_p14, List.forall_mem_cons.mpr ⟨lw_p15, fun _ h => absurd h List.not_mem_nil⟩⟩⟩⟩⟩⟩⟩⟩⟩⟩⟩⟩⟩⟩⟩⟩
theorem lw_p16 : lw_okq (⟨"RingMachine", "pushReturn", "(I)V"⟩, 13) := ⟨⟨by decide +kernel, by decide +kernel⟩, List.mem_of_getElem? (i := 12) (by decide +kernel), List.mem_of_getElem? (i := 417) (by decide +kernel), List.mem_of_getElem? (i := 418) (by decide +kernel)⟩
theorem lw_p17 : lw_okq (⟨"RingMachine", "enter", "(LRingMachine$Descriptor;I)V"⟩, 13) := ⟨⟨by decide +kernel, by decide +kernel⟩, List.mem_of_getElem? (i := 12) (by decide +kernel), List.mem_of_getElem? (i := 421) (by decide +kernel), List.mem_of_getElem? (i := 422) (by decide +kernel)⟩
theorem lw_p18 : lw_okq (⟨"RingMachine", "advance", "()I"⟩, 13) := ⟨⟨by decide +kernel, by decide +kernel⟩, List.mem_of_getElem? (i := 12) (by decide +kernel), List.mem_of_getElem? (i := 425) (by decide +kernel), List.mem_of_getElem? (i := 426) (by decide +kernel)⟩
theorem lw_p19 : lw_okq (⟨"RingMachine", "setWordIn", "(III)V"⟩, 13) := ⟨⟨by decide +kernel, by decide +kernel⟩, List.mem_of_getElem? (i := 12) (by decide +kernel), List.mem_of_getElem? (i := 437) (by decide +kernel), List.mem_of_getElem? (i := 438) (by decide +kernel)⟩
theorem lw_p20 : lw_okq (⟨"RingMachine", "popWord", "()I"⟩, 13) := ⟨⟨by decide +kernel, by decide +kernel⟩, List.mem_of_getElem? (i := 12) (by decide +kernel), List.mem_of_getElem? (i := 449) (by decide +kernel), List.mem_of_getElem? (i := 450) (by decide +kernel)⟩
theorem lw_p21 : lw_okq (⟨"RingMachine", "transfer", "(IIZ)V"⟩, 13) := ⟨⟨by decide +kernel, by decide +kernel⟩, List.mem_of_getElem? (i := 12) (by decide +kernel), List.mem_of_getElem? (i := 457) (by decide +kernel), List.mem_of_getElem? (i := 458) (by decide +kernel)⟩
theorem lw_p22 : lw_okq (⟨"RingMachine", "switchTask", "(I)V"⟩, 13) := ⟨⟨by decide +kernel, by decide +kernel⟩, List.mem_of_getElem? (i := 12) (by decide +kernel), List.mem_of_getElem? (i := 461) (by decide +kernel), List.mem_of_getElem? (i := 462) (by decide +kernel)⟩
theorem lw_p23 : lw_okq (⟨"RingMachine", "saveState", "(I)V"⟩, 13) := ⟨⟨by decide +kernel, by decide +kernel⟩, List.mem_of_getElem? (i := 12) (by decide +kernel), List.mem_of_getElem? (i := 465) (by decide +kernel), List.mem_of_getElem? (i := 466) (by decide +kernel)⟩
theorem lw_p24 : lw_okq (⟨"RingMachine", "markTasks", "(I)V"⟩, 13) := ⟨⟨by decide +kernel, by decide +kernel⟩, List.mem_of_getElem? (i := 12) (by decide +kernel), List.mem_of_getElem? (i := 469) (by decide +kernel), List.mem_of_getElem? (i := 470) (by decide +kernel)⟩
theorem lw_p25 : lw_okq (⟨"RingMachine", "setKind", "(II)V"⟩, 13) := ⟨⟨by decide +kernel, by decide +kernel⟩, List.mem_of_getElem? (i := 12) (by decide +kernel), List.mem_of_getElem? (i := 473) (by decide +kernel), List.mem_of_getElem? (i := 474) (by decide +kernel)⟩
theorem lw_p26 : lw_okq (⟨"RingMachine", "takeSegment", "(II)V"⟩, 13) := ⟨⟨by decide +kernel, by decide +kernel⟩, List.mem_of_getElem? (i := 12) (by decide +kernel), List.mem_of_getElem? (i := 485) (by decide +kernel), List.mem_of_getElem? (i := 486) (by decide +kernel)⟩
theorem lw_p27 : lw_okq (⟨"RingMachine", "fitsTask", "(I)Z"⟩, 13) := ⟨⟨by decide +kernel, by decide +kernel⟩, List.mem_of_getElem? (i := 12) (by decide +kernel), List.mem_of_getElem? (i := 489) (by decide +kernel), List.mem_of_getElem? (i := 490) (by decide +kernel)⟩
theorem lw_p28 : lw_okq (⟨"RingMachine", "passGate", "(Z)V"⟩, 13) := ⟨⟨by decide +kernel, by decide +kernel⟩, List.mem_of_getElem? (i := 12) (by decide +kernel), List.mem_of_getElem? (i := 493) (by decide +kernel), List.mem_of_getElem? (i := 494) (by decide +kernel)⟩
theorem lw_p29 : lw_okq (⟨"RingMachine", "goBack", "(Z)V"⟩, 13) := ⟨⟨by decide +kernel, by decide +kernel⟩, List.mem_of_getElem? (i := 12) (by decide +kernel), List.mem_of_getElem? (i := 501) (by decide +kernel), List.mem_of_getElem? (i := 502) (by decide +kernel)⟩
theorem lw_p30 : lw_okq (⟨"RingMachine", "findReturn", "(I)V"⟩, 13) := ⟨⟨by decide +kernel, by decide +kernel⟩, List.mem_of_getElem? (i := 12) (by decide +kernel), List.mem_of_getElem? (i := 505) (by decide +kernel), List.mem_of_getElem? (i := 506) (by decide +kernel)⟩
theorem lw_p31 : lw_okq (⟨"RingMachine", "findOuterStack", "(II)V"⟩, 13) := ⟨⟨by decide +kernel, by decide +kernel⟩, List.mem_of_getElem? (i := 12) (by decide +kernel), List.mem_of_getElem? (i := 509) (by decide +kernel), List.mem_of_getElem? (i := 510) (by decide +kernel)⟩
def lw_privs_2 : List (MethodName × Nat) := [(⟨"RingMachine", "pushReturn", "(I)V"⟩, 13), (⟨"RingMachine", "enter", "(LRingMachine$Descriptor;I)V"⟩, 13), (⟨"RingMachine", "advance", "()I"⟩, 13), (⟨"RingMachine", "setWordIn", "(III)V"⟩, 13), (⟨"RingMachine", "popWord", "()I"⟩, 13), (⟨"RingMachine", "transfer", "(IIZ)V"⟩, 13), (⟨"RingMachine", "switchTask", "(I)V"⟩, 13), (⟨"RingMachine", "saveState", "(I)V"⟩, 13), (⟨"RingMachine", "markTasks", "(I)V"⟩, 13), (⟨"RingMachine", "setKind", "(II)V"⟩, 13), (⟨"RingMachine", "takeSegment", "(II)V"⟩, 13), (⟨"RingMachine", "fitsTask", "(I)Z"⟩, 13), (⟨"RingMachine", "passGate", "(Z)V"⟩, 13), (⟨"RingMachine", "goBack", "(Z)V"⟩, 13), (⟨"RingMachine", "findReturn", "(I)V"⟩, 13), (⟨"RingMachine", "findOuterStack", "(II)V"⟩, 13)]
theorem lw_r2 : ∀ q ∈ lw_privs_2, lw_okq q := List.forall_mem_cons.mpr ⟨lw_p16, List.forall_mem_cons.mpr ⟨lw_p17, List.forall_mem_cons.mpr ⟨lw_p18, List.forall_mem_cons.mpr ⟨lw_p19, List.forall_mem_cons.mpr ⟨lw_p20, List.forall_mem_cons.mpr ⟨lw_p21, List.forall_mem_cons.mpr ⟨lw_p22, List.forall_mem_cons.mpr ⟨lw_p23, List.forall_mem_cons.mpr ⟨lw_p24, List.forall_mem_cons.mpr ⟨lw_p25, List.forall_mem_cons.mpr ⟨lw_p26, List.forall_mem_cons.mpr ⟨lw_p27, List.forall_mem_cons.mpr ⟨lw_p28, List.forall_mem_cons.mpr ⟨lw_p29, List.forall_mem_cons.mpr ⟨lw_p30, List.forall_mem_cons.mpr ⟨lw_p31, fun _ h => absurd h List.not_mem_nil⟩⟩⟩⟩⟩⟩⟩⟩⟩⟩⟩⟩⟩⟩⟩⟩
theorem lw_p32 : lw_okq (⟨"RingMachine", "hideData", "()V"⟩, 13) := ⟨⟨by decide +kernel, by decide +kernel⟩, List.mem_of_getElem? (i := 12) (by decide +kernel), List.mem_of_getElem? (i := 513) (by decide +kernel), List.mem_of_getElem? (i := 514) (by decide +kernel)⟩
theorem lw_p33 : lw_okq (⟨"RingMachine", "endTask", "()V"⟩, 13) := ⟨⟨by decide +kernel, by decide +kernel⟩, List.mem_of_getElem? (i := 12) (by decide +kernel), List.mem_of_getElem? (i := 525) (by decide +kernel), List.mem_of_getElem? (i := 526) (by decide +kernel)⟩
theorem lw_p34 : lw_okq (⟨"RingMachineModel", "begins", "()V"⟩, 19) := ⟨⟨by decide +kernel, by decide +kernel⟩, List.mem_of_getElem? (i := 537) (by decide +kernel), List.mem_of_getElem? (i := 606) (by decide +kernel), List.mem_of_getElem? (i := 607) (by decide +kernel)⟩
theorem lw_p35 : lw_okq (⟨"RingMachineModel", "keep", "()V"⟩, 19) := ⟨⟨by decide +kernel, by decide +kernel⟩, List.mem_of_getElem? (i := 537) (by decide +kernel), List.mem_of_getElem? (i := 610) (by decide +kernel), List.mem_of_getElem? (i := 611) (by decide +kernel)⟩
theorem lw_p36 : lw_okq (⟨"RingMachineModel", "loadStack", "(I)V"⟩, 19) := ⟨⟨by decide +kernel, by decide +kernel⟩, List.mem_of_getElem? (i := 537) (by decide +kernel), List.mem_of_getElem? (i := 615) (by decide +kernel), List.mem_of_getElem? (i := 616) (by decide +kernel)⟩
theorem lw_p37 : lw_okq (⟨"RingMachineModel", "raise", "(II)V"⟩, 19) := ⟨⟨by decide +kernel, by decide +kernel⟩, List.mem_of_getElem? (i := 537) (by decide +kernel), List.mem_of_getElem? (i := 622) (by decide +kernel), List.mem_of_getElem? (i := 623) (by decide +kernel)⟩
theorem lw_p38 : lw_okq (⟨"RingMachineModel", "lookUp", "(II)V"⟩, 19) := ⟨⟨by decide +kernel, by decide +kernel⟩, List.mem_of_getElem? (i := 537) (by decide +kernel), List.mem_of_getElem? (i := 627) (by decide +kernel), List.mem_of_getElem? (i := 628) (by decide +kernel)⟩
theorem lw_p39 : lw_okq (⟨"RingMachineModel", "readDescriptor", "(II)V"⟩, 19) := ⟨⟨by decide +kernel, by decide +kernel⟩, List.mem_of_getElem? (i := 537) (by decide +kernel), List.mem_of_getElem? (i := 635) (by decide +kernel), List.mem_of_getElem? (i := 636) (by decide +kernel)⟩
theorem lw_p40 : lw_okq (⟨"RingMachineModel", "isRaised", "()Z"⟩, 19) := ⟨⟨by decide +kernel, by decide +kernel⟩, List.mem_of_getElem? (i := 537) (by decide +kernel), List.mem_of_getElem? (i := 639) (by decide +kernel), List.mem_of_getElem? (i := 640) (by decide +kernel)⟩
theorem lw_p41 : lw_okq (⟨"RingMachineModel", "readByte", "(IZ)I"⟩, 19) := ⟨⟨by decide +kernel, by decide +kernel⟩, List.mem_of_getElem? (i := 537) (by decide +kernel), List.mem_of_getElem? (i := 643) (by decide +kernel), List.mem_of_getElem? (i := 644) (by decide +kernel)⟩
theorem lw_p42 : lw_okq (⟨"RingMachineModel", "located", "(IZZ)I"⟩, 19) := ⟨⟨by decide +kernel, by decide +kernel⟩, List.mem_of_getElem? (i := 537) (by decide +kernel), List.mem_of_getElem? (i := 647) (by decide +kernel), List.mem_of_getElem? (i := 648) (by decide +kernel)⟩
theorem lw_p43 : lw_okq (⟨"RingMachineModel", "setSegment", "(III)V"⟩, 19) := ⟨⟨by decide +kernel, by decide +kernel⟩, List.mem_of_getElem? (i := 537) (by decide +kernel), List.mem_of_getElem? (i := 651) (by decide +kernel), List.mem_of_getElem? (i := 652) (by decide +kernel)⟩
theorem lw_p44 : lw_okq (⟨"RingMachineModel", "loadData", "(I)V"⟩, 19) := ⟨⟨by decide +kernel, by decide +kernel⟩, List.mem_of_getElem? (i := 537) (by decide +kernel), List.mem_of_getElem? (i := 655) (by decide +kernel), List.mem_of_getElem? (i := 656) (by decide +kernel)⟩
theorem lw_p45 : lw_okq (⟨"RingMachineModel", "setNull", "(II)V"⟩, 19) := ⟨⟨by decide +kernel, by decide +kernel⟩, List.mem_of_getElem? (i := 537) (by decide +kernel), List.mem_of_getElem? (i := 659) (by decide +kernel), List.mem_of_getElem? (i := 660) (by decide +kernel)⟩
theorem lw_p46 : lw_okq (⟨"RingMachineModel", "ends", "()I"⟩, 19) := ⟨⟨by decide +kernel, by decide +kernel⟩, List.mem_of_getElem? (i := 537) (by decide +kernel), List.mem_of_getElem? (i := 663) (by decide +kernel), List.mem_of_getElem? (i := 664) (by decide +kernel)⟩
theorem lw_p47 : lw_okq (⟨"RingMachineModel", "nextIp", "()I"⟩, 19) := ⟨⟨by decide +kernel, by decide +kernel⟩, List.mem_of_getElem? (i := 537) (by decide +kernel), List.mem_of_getElem? (i := 667) (by decide +kernel), List.mem_of_getElem? (i := 668) (by decide +kernel)⟩
def lw_privs_3 : List (MethodName × Nat) := [(⟨"RingMachine", "hideData", "()V"⟩, 13), (⟨"RingMachine", "endTask", "()V"⟩, 13), (⟨"RingMachineModel", "begins", "()V"⟩, 19), (⟨"RingMachineModel", "keep", "()V"⟩, 19), (⟨"RingMachineModel", "loadStack", "(I)V"⟩, 19), (⟨"RingMachineModel", "raise", "(II)V"⟩, 19), (⟨"RingMachineModel", "lookUp", "(II)V"⟩, 19), (⟨"RingMachineModel", "readDescriptor", "(II)V"⟩, 19), (⟨"RingMachineModel", "isRaised", "()Z"⟩, 19), (⟨"RingMachineModel", "readByte", "(IZ)I"⟩, 19), (⟨"RingMachineModel", "located", "(IZZ)I"⟩, 19), (⟨"RingMachineModel", "setSegment", "(III)V"⟩, 19), (⟨"RingMachineModel", "loadData", "(I)V"⟩, 19), (⟨"RingMachineModel", "setNull", "(II)V"⟩, 19), (⟨"RingMachineModel", "ends", "()I"⟩, 19), (⟨"RingMachineModel", "nextIp", "()I"⟩, 19)]
theorem lw_r3 : ∀ q ∈ lw_privs_3, lw_okq q := List.forall_mem_cons.mpr ⟨lw_p32, List.forall_mem_cons.mpr ⟨lw_p33, List.forall_mem_cons.mpr ⟨lw_p34, List.forall_mem_cons.mpr ⟨lw_p35, List.forall_mem_cons.mpr ⟨lw_p36, List.forall_mem_cons.mpr ⟨lw_p37, List.forall_mem_cons.mpr ⟨lw_p38, List.forall_mem_cons.mpr ⟨lw_p39, List.forall_mem_cons.mpr ⟨lw_p40, List.forall_mem_cons.mpr ⟨lw_p41, List.forall_mem_cons.mpr ⟨lw_p42, List.forall_mem_cons.mpr ⟨lw_p43, List.forall_mem_cons.mpr ⟨lw_p44, List.forall_mem_cons.mpr ⟨lw_p45, List.forall_mem_cons.mpr ⟨lw_p46, List.forall_mem_cons.mpr ⟨lw_p47, fun _ h => absurd h List.not_mem_nil⟩⟩⟩⟩⟩⟩⟩⟩⟩⟩⟩⟩⟩⟩⟩⟩
theorem lw_p48 : lw_okq (⟨"RingMachineModel", "restore", "()V"⟩, 19) := ⟨⟨by decide +kernel, by decide +kernel⟩, List.mem_of_getElem? (i := 537) (by decide +kernel), List.mem_of_getElem? (i := 671) (by decide +kernel), List.mem_of_getElem? (i := 672) (by decide +kernel)⟩
theorem lw_p49 : lw_okq (⟨"RingMachineModel", "deliver", "(IZI)V"⟩, 19) := ⟨⟨by decide +kernel, by decide +kernel⟩, List.mem_of_getElem? (i := 537) (by decide +kernel), List.mem_of_getElem? (i := 675) (by decide +kernel), List.mem_of_getElem? (i := 676) (by decide +kernel)⟩
theorem lw_p50 : lw_okq (⟨"RingMachineModel", "through", "(IIIZZI)V"⟩, 19) := ⟨⟨by decide +kernel, by decide +kernel⟩, List.mem_of_getElem? (i := 537) (by decide +kernel), List.mem_of_getElem? (i := 679) (by decide +kernel), List.mem_of_getElem? (i := 680) (by decide +kernel)⟩
theorem lw_p51 : lw_okq (⟨"RingMachineModel", "isDirect", "()Z"⟩, 19) := ⟨⟨by decide +kernel, by decide +kernel⟩, List.mem_of_getElem? (i := 537) (by decide +kernel), List.mem_of_getElem? (i := 683) (by decide +kernel), List.mem_of_getElem? (i := 684) (by decide +kernel)⟩
theorem lw_p52 : lw_okq (⟨"RingMachineModel", "inner", "(II)V"⟩, 19) := ⟨⟨by decide +kernel, by decide +kernel⟩, List.mem_of_getElem? (i := 537) (by decide +kernel), List.mem_of_getElem? (i := 687) (by decide +kernel), List.mem_of_getElem? (i := 688) (by decide +kernel)⟩
theorem lw_p53 : lw_okq (⟨"RingMachineModel", "readWord", "(IZ)I"⟩, 19) := ⟨⟨by decide +kernel, by decide +kernel⟩, List.mem_of_getElem? (i := 537) (by decide +kernel), List.mem_of_getElem? (i := 691) (by decide +kernel), List.mem_of_getElem? (i := 692) (by decide +kernel)⟩
theorem lw_p54 : lw_okq (⟨"RingMachineModel", "segmentWord", "(II)I"⟩, 19) := ⟨⟨by decide +kernel, by decide +kernel⟩, List.mem_of_getElem? (i := 537) (by decide +kernel), List.mem_of_getElem? (i := 695) (by decide +kernel), List.mem_of_getElem? (i := 696) (by decide +kernel)⟩
theorem lw_p55 : lw_okq (⟨"RingMachineModel", "within", "(IIZ)I"⟩, 19) := ⟨⟨by decide +kernel, by decide +kernel⟩, List.mem_of_getElem? (i := 537) (by decide +kernel), List.mem_of_getElem? (i := 699) (by decide +kernel), List.mem_of_getElem? (i := 700) (by decide +kernel)⟩
theorem lw_p56 : lw_okq (⟨"RingMachineModel", "pushWord", "(I)V"⟩, 19) := ⟨⟨by decide +kernel, by decide +kernel⟩, List.mem_of_getElem? (i := 537) (by decide +kernel), List.mem_of_getElem? (i := 703) (by decide +kernel), List.mem_of_getElem? (i := 704) (by decide +kernel)⟩
theorem lw_p57 : lw_okq (⟨"RingMachineModel", "setSegmentWord", "(III)V"⟩, 19) := ⟨⟨by decide +kernel, by decide +kernel⟩, List.mem_of_getElem? (i := 537) (by decide +kernel), List.mem_of_getElem? (i := 707) (by decide +kernel), List.mem_of_getElem? (i := 708) (by decide +kernel)⟩
theorem lw_p58 : lw_okq (⟨"RingMachineModel", "writeWord", "(IIZ)V"⟩, 19) := ⟨⟨by decide +kernel, by decide +kernel⟩, List.mem_of_getElem? (i := 537) (by decide +kernel), List.mem_of_getElem? (i := 711) (by decide +kernel), List.mem_of_getElem? (i := 712) (by decide +kernel)⟩
theorem lw_p59 : lw_okq (⟨"RingMachineModel", "writeByte", "(IIZ)V"⟩, 19) := ⟨⟨by decide +kernel, by decide +kernel⟩, List.mem_of_getElem? (i := 537) (by decide +kernel), List.mem_of_getElem? (i := 715) (by decide +kernel), List.mem_of_getElem? (i := 716) (by decide +kernel)⟩
theorem lw_p60 : lw_okq (⟨"RingMachineModel", "enter", "(II)V"⟩, 19) := ⟨⟨by decide +kernel, by decide +kernel⟩, List.mem_of_getElem? (i := 537) (by decide +kernel), List.mem_of_getElem? (i := 719) (by decide +kernel), List.mem_of_getElem? (i := 720) (by decide +kernel)⟩
theorem lw_p61 : lw_okq (⟨"RingMachineModel", "popWord", "()I"⟩, 19) := ⟨⟨by decide +kernel, by decide +kernel⟩, List.mem_of_getElem? (i := 537) (by decide +kernel), List.mem_of_getElem? (i := 739) (by decide +kernel), List.mem_of_getElem? (i := 740) (by decide +kernel)⟩
theorem lw_p62 : lw_okq (⟨"RingMachineModel", "transfer", "(IIZ)V"⟩, 19) := ⟨⟨by decide +kernel, by decide +kernel⟩, List.mem_of_getElem? (i := 537) (by decide +kernel), List.mem_of_getElem? (i := 747) (by decide +kernel), List.mem_of_getElem? (i := 748) (by decide +kernel)⟩
theorem lw_p63 : lw_okq (⟨"RingMachineModel", "switchTo", "(II)V"⟩, 19) := ⟨⟨by decide +kernel, by decide +kernel⟩, List.mem_of_getElem? (i := 537) (by decide +kernel), List.mem_of_getElem? (i := 751) (by decide +kernel), List.mem_of_getElem? (i := 752) (by decide +kernel)⟩
def lw_privs_4 : List (MethodName × Nat) := [(⟨"RingMachineModel", "restore", "()V"⟩, 19), (⟨"RingMachineModel", "deliver", "(IZI)V"⟩, 19), (⟨"RingMachineModel", "through", "(IIIZZI)V"⟩, 19), (⟨"RingMachineModel", "isDirect", "()Z"⟩, 19), (⟨"RingMachineModel", "inner", "(II)V"⟩, 19), (⟨"RingMachineModel", "readWord", "(IZ)I"⟩, 19), (⟨"RingMachineModel", "segmentWord", "(II)I"⟩, 19), (⟨"RingMachineModel", "within", "(IIZ)I"⟩, 19), (⟨"RingMachineModel", "pushWord", "(I)V"⟩, 19), (⟨"RingMachineModel", "setSegmentWord", "(III)V"⟩, 19), (⟨"RingMachineModel", "writeWord", "(IIZ)V"⟩, 19), (⟨"RingMachineModel", "writeByte", "(IIZ)V"⟩, 19), (⟨"RingMachineModel", "enter", "(II)V"⟩, 19), (⟨"RingMachineModel", "popWord", "()I"⟩, 19), (⟨"RingMachineModel", "transfer", "(IIZ)V"⟩, 19), (⟨"RingMachineModel", "switchTo", "(II)V"⟩, 19)]
theorem lw_r4 : ∀ q ∈ lw_privs_4, lw_okq q := List.forall_mem_cons.mpr ⟨lw_p48, List.forall_mem_cons.mpr ⟨lw_p49, List.forall_mem_cons.mpr ⟨lw_p50, List.forall_mem_cons.mpr ⟨lw_p51, List.forall_mem_cons.mpr ⟨lw_p52, List.forall_mem_cons.mpr ⟨lw_p53, List.forall_mem_cons.mpr ⟨lw_p54, List.forall_mem_cons.mpr ⟨lw_p55, List.forall_mem_cons.mpr ⟨lw_p56, List.forall_mem_cons.mpr ⟨lw_p57, List.forall_mem_cons.mpr ⟨lw_p58, List.forall_mem_cons.mpr ⟨lw_p59, List.forall_mem_cons.mpr ⟨lw_p60, List.forall_mem_cons.mpr ⟨lw_p61, List.forall_mem_cons.mpr ⟨lw_p62, List.forall_mem_cons.mpr ⟨lw_p63, fun _ h => absurd h List.not_mem_nil⟩⟩⟩⟩⟩⟩⟩⟩⟩⟩⟩⟩⟩⟩⟩⟩
theorem lw_p64 : lw_okq (⟨"RingMachineModel", "saveWord", "(II)V"⟩, 19) := ⟨⟨by decide +kernel, by decide +kernel⟩, List.mem_of_getElem? (i := 537) (by decide +kernel), List.mem_of_getElem? (i := 755) (by decide +kernel), List.mem_of_getElem? (i := 756) (by decide +kernel)⟩
theorem lw_p65 : lw_okq (⟨"RingMachineModel", "setKind", "(II)V"⟩, 19) := ⟨⟨by decide +kernel, by decide +kernel⟩, List.mem_of_getElem? (i := 537) (by decide +kernel), List.mem_of_getElem? (i := 759) (by decide +kernel), List.mem_of_getElem? (i := 760) (by decide +kernel)⟩
theorem lw_p66 : lw_okq (⟨"RingMachineModel", "take", "(II)V"⟩, 19) := ⟨⟨by decide +kernel, by decide +kernel⟩, List.mem_of_getElem? (i := 537) (by decide +kernel), List.mem_of_getElem? (i := 763) (by decide +kernel), List.mem_of_getElem? (i := 764) (by decide +kernel)⟩
theorem lw_p67 : lw_okq (⟨"RingMachineModel", "returns", "(Z)V"⟩, 19) := ⟨⟨by decide +kernel, by decide +kernel⟩, List.mem_of_getElem? (i := 537) (by decide +kernel), List.mem_of_getElem? (i := 771) (by decide +kernel), List.mem_of_getElem? (i := 772) (by decide +kernel)⟩
theorem lw_p68 : lw_okq (⟨"RingMachineModel", "outerStack", "(II)V"⟩, 19) := ⟨⟨by decide +kernel, by decide +kernel⟩, List.mem_of_getElem? (i := 537) (by decide +kernel), List.mem_of_getElem? (i := 775) (by decide +kernel), List.mem_of_getElem? (i := 776) (by decide +kernel)⟩
theorem lw_p69 : lw_okq (⟨"RingMachineModel", "leaveTask", "()V"⟩, 19) := ⟨⟨by decide +kernel, by decide +kernel⟩, List.mem_of_getElem? (i := 537) (by decide +kernel), List.mem_of_getElem? (i := 787) (by decide +kernel), List.mem_of_getElem? (i := 788) (by decide +kernel)⟩
def lw_privs_5 : List (MethodName × Nat) := [(⟨"RingMachineModel", "saveWord", "(II)V"⟩, 19), (⟨"RingMachineModel", "setKind", "(II)V"⟩, 19), (⟨"RingMachineModel", "take", "(II)V"⟩, 19), (⟨"RingMachineModel", "returns", "(Z)V"⟩, 19), (⟨"RingMachineModel", "outerStack", "(II)V"⟩, 19), (⟨"RingMachineModel", "leaveTask", "()V"⟩, 19)]
theorem lw_r5 : ∀ q ∈ lw_privs_5, lw_okq q := List.forall_mem_cons.mpr ⟨lw_p64, List.forall_mem_cons.mpr ⟨lw_p65, List.forall_mem_cons.mpr ⟨lw_p66, List.forall_mem_cons.mpr ⟨lw_p67, List.forall_mem_cons.mpr ⟨lw_p68, List.forall_mem_cons.mpr ⟨lw_p69, fun _ h => absurd h List.not_mem_nil⟩⟩⟩⟩⟩⟩
def lw_privs : List (MethodName × Nat) := lw_privs_1 ++ (lw_privs_2 ++ (lw_privs_3 ++ (lw_privs_4 ++ (lw_privs_5))))
def lw_tbl : List Cond := k2_sels lw_privs ++ tables_1
theorem lw_privs_ok : ∀ q ∈ lw_privs, lw_okq q := by
  show ∀ q ∈ lw_privs_1 ++ (lw_privs_2 ++ (lw_privs_3 ++ (lw_privs_4 ++ (lw_privs_5)))), lw_okq q
  exact List.forall_mem_append.mpr ⟨lw_r1, List.forall_mem_append.mpr ⟨lw_r2, List.forall_mem_append.mpr ⟨lw_r3, List.forall_mem_append.mpr ⟨lw_r4, lw_r5⟩⟩⟩⟩
end
section
/-! The small machine: worlds of cells by number; what a state of the machine holds of them. -/
abbrev xs_S : Type := Nat → Nat → Int32
abbrev xs_R : Type := Nat → Nat → Option Nat
/-- cells made, slots made, the ints, the references -/
abbrev xw_W : Type := Nat × Nat × xs_S × xs_R
/-- returned, or threw the cell -/
abbrev xw_O : Type := Option Value ⊕ Nat
/-- name, code, locals, answer, handlers, frames and words that it needs -/
abbrev xw_M : Type := MethodName × ByteArray × Nat × Option FieldType × List (Nat × Nat × Nat × Nat) × Nat × Nat
/-- the classes' numbers and slots; the classes of int arrays, of boolean arrays, of the exception; where cell 0 is, where the others begin -/
abbrev xw_G : Type := va_G × (ClassId × ClassId × ClassId) × (Nat × Nat)
/-- where a cell is: each is made at the heap's end -/
def xw_ad (G : xw_G) (i : Nat) : Nat := if i = 0 then G.2.2.1 else G.2.2.2 + (i - 1)
abbrev xw_dec (c : ByteArray) (pc : Nat) (i : Instr) (len pc' : Nat) : Prop := decode c pc = .ok (i, len) ∧ pc + len = pc'
def xu_u (σ : xs_S) (i k : Nat) (v : Int32) : xs_S := fun a b => if a = i then (if b = k then v else σ a b) else σ a b
def xu_z (σ : xs_S) (n : Nat) : xs_S := fun a b => if a = n then 0 else σ a b
def xu_r (ρ : xs_R) (i k : Nat) (v : Option Nat) : xs_R := fun a b => if a = i then (if b = k then v else ρ a b) else ρ a b
def xu_n (ρ : xs_R) (n : Nat) : xs_R := fun a b => if a = n then none else ρ a b
theorem xu_ne {σ : xs_S} {i k a b : Nat} {v : Int32} (h : a ≠ i) : xu_u σ i k v a b = σ a b := by simp [xu_u, h]
theorem xu_zn {σ : xs_S} {n a b : Nat} (h : a ≠ n) : xu_z σ n a b = σ a b := by simp [xu_z, h]
theorem xu_zz {σ : xs_S} {n b : Nat} : xu_z σ n n b = 0 := by simp [xu_z]
theorem xu_rn {ρ : xs_R} {i k a b : Nat} {v : Option Nat} (h : a ≠ i) : xu_r ρ i k v a b = ρ a b := by simp [xu_r, h]
theorem xu_nn {ρ : xs_R} {n a b : Nat} (h : a ≠ n) : xu_n ρ n a b = ρ a b := by simp [xu_n, h]
theorem xu_nz {ρ : xs_R} {n b : Nat} : xu_n ρ n n b = none := by simp [xu_n]
def xw_tv (G : xw_G) : Value → Value
  | .ref i => .ref (xw_ad G i)
  | v => v
theorem xw_tv_cat (G : xw_G) (v : Value) : (xw_tv G v).category = v.category := by cases v <;> rfl
theorem xw_tv_sum (G : xw_G) (S : List Value) : ((S.map (xw_tv G)).map fun v => v.category).sum = (S.map fun v => v.category).sum := by
  rw [List.map_map]
  congr 1
  exact List.map_congr_left fun v _ => xw_tv_cat G v
theorem xw_ad0 (G : xw_G) : xw_ad G 0 = G.2.2.1 := by simp [xw_ad]
theorem xw_adp (G : xw_G) {i : Nat} (h : 0 < i) : xw_ad G i = G.2.2.2 + (i - 1) := by simp [xw_ad, Nat.ne_of_gt h]
theorem xw_adi {G : xw_G} (hb : G.2.2.1 < G.2.2.2) {i j : Nat} (h : xw_ad G i = xw_ad G j) : i = j := by
  unfold xw_ad at h
  split at h <;> split at h <;> omega
/-- a field: 0 an int, 1 a boolean, 2 a reference -/
def xw_fv (ft : Nat) (G : xw_G) (x : Int32) (r : Option Nat) : Value := if ft = 2 then va_rf (r.map (xw_ad G)) else .int x
/-- a static that holds a reference or null; its cell is none of ours -/
def xw_z (C n d : String) (U : State) (H : Heap) : Prop := ∃ (c : ClassId) (k : Class) (i : Nat) (f : Field) (a : Nat) (cell : Cell), U.vm.findClass C = some c ∧ U.fieldFound? C n d = some (c, k, i, f) ∧ f.isStatic = true ∧ k.statics = some a ∧ H[a]? = some cell ∧ cell.vm.isStatics = true ∧ cell.cls = c ∧ f.slot < cell.slots.size ∧ k.staticTypes[f.slot]? = some f.type ∧ (cell.slots[f.slot]? = some .null ∨ ∃ t, cell.slots[f.slot]? = some (.ref t))
theorem xw_z.moved {C n d : String} {u U : State} {H : Heap} (hvm : u.vm.Alike U.vm) (h : xw_z C n d u H) : xw_z C n d U H := by
  obtain ⟨c, k, i, f, a, cell, h1, h2, h3, h4, h5, h6, h7, h8, h9, h10⟩ := h
  obtain ⟨k', hi', he⟩ := State.fieldFound?_setVm hvm h2
  exact ⟨c, k', i, f, a, cell, by rw [hvm.findClass]; exact h1, hi', h3, by rw [he]; exact h4, h5, h6, h7, h8, by rw [he]; exact h9, h10⟩
theorem xw_z.kept {C n d : String} {U : State} {H H1 : Heap} (h : xw_z C n d U H) (hq : ∀ (a : Nat) (cell : Cell), H[a]? = some cell → cell.vm.isStatics = true → H1[a]? = some cell) : xw_z C n d U H1 := by
  obtain ⟨c, k, i, f, a, cell, h1, h2, h3, h4, h5, h6, h7⟩ := h
  exact ⟨c, k, i, f, a, cell, h1, h2, h3, h4, hq a cell h5 h6, h6, h7⟩
theorem xw_z.of {args : Array Value} {s : State} {C n d : String} (hl : (Cond.laysStatic C n d).before args s = true) (hr : (Cond.isRef (.static C n d)).before args s = true) : xw_z C n d s s.heap := by
  obtain ⟨c, k, i, f, a, cell, hc, hi, hst, ha, hcell, hs, hcls, hlt, hty⟩ := Cond.laysStatic_spec hl
  refine ⟨c, k, i, f, a, cell, hc, hi, hst, ha, hcell, hs, hcls, hlt, hty, ?_⟩
  cases hv : (Term.static C n d).eval args s none [] s with
  | none => simp [Cond.before, Cond.holds, Cond.value, hv] at hr
  | some w =>
    obtain ⟨hst', a', cell', ha', hcell', -, hslot⟩ := Term.static_spec hi hv
    cases ha.symm.trans ha'
    cases hcell.symm.trans hcell'
    simp only [Cond.before, Cond.holds, Cond.value, hv] at hr
    cases w with
    | null => exact Or.inl hslot
    | ref t => exact Or.inr ⟨t, hslot⟩
    | _ => simp at hr
theorem xw_z.lays {args : Array Value} {s : State} {C n d : String} (h : xw_z C n d s s.heap) : (Cond.laysStatic C n d).before args s = true := by
  obtain ⟨c, k, i, f, a, cell, hc, hi, hst, ha, hcell, hs, hcls, hlt, hty, -⟩ := h
  exact Cond.laysStatic_of hc hi hst ha hcell hs hcls hlt hty
theorem xw_z.isRef {args : Array Value} {s : State} {C n d : String} (h : xw_z C n d s s.heap) : (Cond.isRef (.static C n d)).before args s = true := by
  obtain ⟨c, k, i, f, a, cell, hc, hi, hst, ha, hcell, hs, hcls, hlt, hty, hv⟩ := h
  have he : ∃ v : Value, (Term.static C n d).eval args s none [] s = some v ∧ (v = .null ∨ ∃ t, v = .ref t) := by
    rcases hv with hv | ⟨t, hv⟩
    · exact ⟨.null, by simp [Term.eval, State.fieldNamed?, hi, hst, ha, hcell, hs, hv], Or.inl rfl⟩
    · exact ⟨.ref t, by simp [Term.eval, State.fieldNamed?, hi, hst, ha, hcell, hs, hv], Or.inr ⟨t, rfl⟩⟩
  obtain ⟨v, e1, e2⟩ := he
  rcases e2 with rfl | ⟨t, rfl⟩ <;> simp [Cond.before, Cond.holds, Cond.value, e1]
/-- words that hold on under warmer tables -/
def xw_gw : Cond → Bool
  | .arrayClass _ => true
  | .methodLinkNest .. => true
  | w => w.onTables && w.keepsFace
theorem xw_gw_move {s U : State} {args a' : Array Value} (hW : s.WarmedH U.vm) {c : Cond} (hc : xw_gw c = true) (h : c.before args s = true) : c.before a' U = true := by
  have key : ∀ c : Cond, (c.onTables && c.keepsFace) = true → c.before args s = true → c.before a' U = true := by
    intro c hc h
    simp only [Bool.and_eq_true] at hc
    have h1 : c.before args (s.setVm U.vm) = true := Cond.before_shiftedFace (State.Shifted.of_warmed hW) c hc.2 h
    have h2 := Cond.onTables_vm (A := args) (A' := a') (U := s) (U' := U) U.vm c hc.1
    rw [State.setVm_self] at h2
    rw [← h2]
    exact h1
  cases c with
  | arrayClass ty => exact word_at hW (Or.inr ⟨ty, rfl⟩) h
  | methodLinkNest a i x hh =>
    have h0 : va_Nw (.methodLinkNest a i x hh) s := va_Nw.of rfl h
    exact va_Nw.use rfl (va_Nw.warmM hW h0)
  | _ => exact key _ hc h
end
section
/-! The classes, their fields, the words that hold on. -/
def xc_F0 : u_T := fun k => match k with
  | 0 => ("RingMachine$Descriptor", "selector", "I", false)
  | 1 => ("RingMachine$Descriptor", "base", "I", false)
  | 2 => ("RingMachine$Descriptor", "limit", "I", false)
  | 3 => ("RingMachine$Descriptor", "kind", "I", false)
  | 4 => ("RingMachine$Descriptor", "level", "I", false)
  | 5 => ("RingMachine$Descriptor", "words", "I", false)
  | _ => ("RingMachine$Descriptor", "present", "Z", false)
def xc_F1 : u_T := fun k => match k with
  | 0 => ("RingMachine$Fault", "vector", "I", false)
  | 1 => ("RingMachine$Fault", "code", "I", false)
  | _ => ("RingMachine$Fault", "address", "I", false)
def xc_F2 : u_T := fun k => match k with
  | 0 => ("RingMachine$Memory", "fault", "LRingMachine$Fault;", true)
  | 1 => ("RingMachine$Memory", "registers", "LRingMachine$Registers;", true)
  | 2 => ("RingMachine$Memory", "bytes", "[I", true)
  | _ => ("RingMachine$Memory", "paged", "Z", false)
def xc_F3 : u_T := fun k => match k with
  | 0 => ("RingMachine$Registers", "cs", "LRingMachine$Descriptor;", true)
  | 1 => ("RingMachine$Registers", "ss", "LRingMachine$Descriptor;", true)
  | 2 => ("RingMachine$Registers", "ds", "LRingMachine$Descriptor;", true)
  | 3 => ("RingMachine$Registers", "sp", "I", false)
  | 4 => ("RingMachine$Registers", "ip", "I", false)
  | 5 => ("RingMachine$Registers", "flags", "I", false)
  | 6 => ("RingMachine$Registers", "ring", "I", false)
  | 7 => ("RingMachine$Registers", "task", "I", false)
  | 8 => ("RingMachine$Registers", "taskState", "I", false)
  | 9 => ("RingMachine$Registers", "directory", "I", false)
  | _ => ("RingMachine$Registers", "accumulator", "I", false)
def xc_F4 : u_T := fun k => match k with
  | 0 => ("RingMachine", "fault", "LRingMachine$Fault;", true)
  | 1 => ("RingMachine", "now", "LRingMachine$Registers;", true)
  | 2 => ("RingMachine", "before", "LRingMachine$Registers;", true)
  | 3 => ("RingMachine", "memory", "LRingMachine$Memory;", true)
  | 4 => ("RingMachine", "entry", "LRingMachine$Descriptor;", true)
  | 5 => ("RingMachine", "target", "LRingMachine$Descriptor;", true)
  | 6 => ("RingMachine", "stack", "LRingMachine$Descriptor;", true)
  | 7 => ("RingMachine", "state", "[I", true)
  | 8 => ("RingMachine", "words", "[I", true)
  | 9 => ("RingMachine", "table", "I", false)
  | 10 => ("RingMachine", "count", "I", false)
  | 11 => ("RingMachine", "vectors", "I", false)
  | _ => ("RingMachine", "down", "Z", false)
def xc_F5 : u_T := fun k => match k with
  | 0 => ("RingMachineModel", "memory", "[I", false)
  | 1 => ("RingMachineModel", "paged", "Z", false)
  | 2 => ("RingMachineModel", "table", "I", false)
  | 3 => ("RingMachineModel", "count", "I", false)
  | 4 => ("RingMachineModel", "vectors", "I", false)
  | 5 => ("RingMachineModel", "\x72", "[I", false)
  | 6 => ("RingMachineModel", "kept", "[I", false)
  | 7 => ("RingMachineModel", "faultAddress", "I", false)
  | 8 => ("RingMachineModel", "down", "Z", false)
  | 9 => ("RingMachineModel", "raised", "I", false)
  | 10 => ("RingMachineModel", "switched", "Z", false)
  | 11 => ("RingMachineModel", "went", "Z", false)
  | 12 => ("RingMachineModel", "bases", "[I", false)
  | 13 => ("RingMachineModel", "limits", "[I", false)
  | 14 => ("RingMachineModel", "kinds", "[I", false)
  | 15 => ("RingMachineModel", "levels", "[I", false)
  | 16 => ("RingMachineModel", "present", "[Z", false)
  | 17 => ("RingMachineModel", "counts", "[I", false)
  | _ => ("RingMachineModel", "words", "[I", false)
def xw_fT (ci k : Nat) : FieldType := match ci with
  | 0 => (match k with
    | 0 => .int
    | 1 => .int
    | 2 => .int
    | 3 => .int
    | 4 => .int
    | 5 => .int
    | _ => .boolean)
  | 1 => (match k with
    | 0 => .int
    | 1 => .int
    | _ => .int)
  | 2 => (match k with
    | 0 => .object "RingMachine$Fault"
    | 1 => .object "RingMachine$Registers"
    | 2 => .array .int
    | _ => .boolean)
  | 3 => (match k with
    | 0 => .object "RingMachine$Descriptor"
    | 1 => .object "RingMachine$Descriptor"
    | 2 => .object "RingMachine$Descriptor"
    | 3 => .int
    | 4 => .int
    | 5 => .int
    | 6 => .int
    | 7 => .int
    | 8 => .int
    | 9 => .int
    | _ => .int)
  | 4 => (match k with
    | 0 => .object "RingMachine$Fault"
    | 1 => .object "RingMachine$Registers"
    | 2 => .object "RingMachine$Registers"
    | 3 => .object "RingMachine$Memory"
    | 4 => .object "RingMachine$Descriptor"
    | 5 => .object "RingMachine$Descriptor"
    | 6 => .object "RingMachine$Descriptor"
    | 7 => .array .int
    | 8 => .array .int
    | 9 => .int
    | 10 => .int
    | 11 => .int
    | _ => .boolean)
  | _ => (match k with
    | 0 => .array .int
    | 1 => .boolean
    | 2 => .int
    | 3 => .int
    | 4 => .int
    | 5 => .array .int
    | 6 => .array .int
    | 7 => .int
    | 8 => .boolean
    | 9 => .int
    | 10 => .boolean
    | 11 => .boolean
    | 12 => .array .int
    | 13 => .array .int
    | 14 => .array .int
    | 15 => .array .int
    | 16 => .array .boolean
    | 17 => .array .int
    | _ => .array .int)
def xw_ft (ci k : Nat) : Nat := match xw_fT ci k with
  | .int => 0
  | .boolean => 1
  | .object _ => 2
  | .array _ => 2
  | _ => 3
abbrev vwCl : List vw_C := [("RingMachine$Descriptor", xc_F0, 7), ("RingMachine$Fault", xc_F1, 3), ("RingMachine$Memory", xc_F2, 4), ("RingMachine$Registers", xc_F3, 11), ("RingMachine", xc_F4, 13), ("RingMachineModel", xc_F5, 19)]
def xw_T : List Cond := lw_tbl.filter xw_gw
theorem xw_Tin {w : Cond} (h : w ∈ lw_tbl) (hg : xw_gw w = true) : w ∈ xw_T := List.mem_filter.mpr ⟨h, hg⟩
theorem xw_clP {P : Nat → vw_C → Prop} (h0 : P 0 ("RingMachine$Descriptor", xc_F0, 7)) (h1 : P 1 ("RingMachine$Fault", xc_F1, 3)) (h2 : P 2 ("RingMachine$Memory", xc_F2, 4)) (h3 : P 3 ("RingMachine$Registers", xc_F3, 11)) (h4 : P 4 ("RingMachine", xc_F4, 13)) (h5 : P 5 ("RingMachineModel", xc_F5, 19)) : ∀ (ci : Nat) (q : vw_C), vwCl[ci]? = some q → P ci q := by
  intro ci q h
  match ci, h with
  | 0, h => cases h; exact h0
  | 1, h => cases h; exact h1
  | 2, h => cases h; exact h2
  | 3, h => cases h; exact h3
  | 4, h => cases h; exact h4
  | 5, h => cases h; exact h5
  | n + 6, h => simp [vwCl] at h
theorem xc_w0_0 : Cond.lays "RingMachine$Descriptor" "RingMachine$Descriptor" "selector" "I" ∈ xw_T := xw_Tin (List.mem_append_right _ (List.mem_of_getElem? (i := 64) (by decide +kernel))) rfl
theorem xc_w0_1 : Cond.lays "RingMachine$Descriptor" "RingMachine$Descriptor" "base" "I" ∈ xw_T := xw_Tin (List.mem_append_right _ (List.mem_of_getElem? (i := 66) (by decide +kernel))) rfl
theorem xc_w0_2 : Cond.lays "RingMachine$Descriptor" "RingMachine$Descriptor" "limit" "I" ∈ xw_T := xw_Tin (List.mem_append_right _ (List.mem_of_getElem? (i := 68) (by decide +kernel))) rfl
theorem xc_w0_3 : Cond.lays "RingMachine$Descriptor" "RingMachine$Descriptor" "kind" "I" ∈ xw_T := xw_Tin (List.mem_append_right _ (List.mem_of_getElem? (i := 70) (by decide +kernel))) rfl
theorem xc_w0_4 : Cond.lays "RingMachine$Descriptor" "RingMachine$Descriptor" "level" "I" ∈ xw_T := xw_Tin (List.mem_append_right _ (List.mem_of_getElem? (i := 72) (by decide +kernel))) rfl
theorem xc_w0_5 : Cond.lays "RingMachine$Descriptor" "RingMachine$Descriptor" "words" "I" ∈ xw_T := xw_Tin (List.mem_append_right _ (List.mem_of_getElem? (i := 74) (by decide +kernel))) rfl
theorem xc_w0_6 : Cond.lays "RingMachine$Descriptor" "RingMachine$Descriptor" "present" "Z" ∈ xw_T := xw_Tin (List.mem_append_right _ (List.mem_of_getElem? (i := 76) (by decide +kernel))) rfl
theorem xc_c0 : ∀ w ∈ u_ws "RingMachine$Descriptor" xc_F0 7, w ∈ xw_T := by
  intro w hw
  obtain ⟨k, hk, rfl⟩ := List.mem_map.mp hw
  have hk : k < 7 := List.mem_range.mp hk
  match k, hk with
  | 0, _ => exact xc_w0_0
  | 1, _ => exact xc_w0_1
  | 2, _ => exact xc_w0_2
  | 3, _ => exact xc_w0_3
  | 4, _ => exact xc_w0_4
  | 5, _ => exact xc_w0_5
  | 6, _ => exact xc_w0_6
  | n + 7, hk => exact absurd hk (by omega)
theorem xc_w1_0 : Cond.lays "RingMachine$Fault" "RingMachine$Fault" "vector" "I" ∈ xw_T := xw_Tin (List.mem_append_right _ (List.mem_of_getElem? (i := 31) (by decide +kernel))) rfl
theorem xc_w1_1 : Cond.lays "RingMachine$Fault" "RingMachine$Fault" "code" "I" ∈ xw_T := xw_Tin (List.mem_append_right _ (List.mem_of_getElem? (i := 33) (by decide +kernel))) rfl
theorem xc_w1_2 : Cond.lays "RingMachine$Fault" "RingMachine$Fault" "address" "I" ∈ xw_T := xw_Tin (List.mem_append_right _ (List.mem_of_getElem? (i := 35) (by decide +kernel))) rfl
theorem xc_c1 : ∀ w ∈ u_ws "RingMachine$Fault" xc_F1 3, w ∈ xw_T := by
  intro w hw
  obtain ⟨k, hk, rfl⟩ := List.mem_map.mp hw
  have hk : k < 3 := List.mem_range.mp hk
  match k, hk with
  | 0, _ => exact xc_w1_0
  | 1, _ => exact xc_w1_1
  | 2, _ => exact xc_w1_2
  | n + 3, hk => exact absurd hk (by omega)
theorem xc_w2_0 : Cond.laysFinal "RingMachine$Memory" "RingMachine$Memory" "fault" "LRingMachine$Fault;" ∈ xw_T := xw_Tin (List.mem_append_right _ (List.mem_of_getElem? (i := 140) (by decide +kernel))) rfl
theorem xc_w2_1 : Cond.laysFinal "RingMachine$Memory" "RingMachine$Memory" "registers" "LRingMachine$Registers;" ∈ xw_T := xw_Tin (List.mem_append_right _ (List.mem_of_getElem? (i := 142) (by decide +kernel))) rfl
theorem xc_w2_2 : Cond.laysFinal "RingMachine$Memory" "RingMachine$Memory" "bytes" "[I" ∈ xw_T := xw_Tin (List.mem_append_right _ (List.mem_of_getElem? (i := 144) (by decide +kernel))) rfl
theorem xc_w2_3 : Cond.lays "RingMachine$Memory" "RingMachine$Memory" "paged" "Z" ∈ xw_T := xw_Tin (List.mem_append_right _ (List.mem_of_getElem? (i := 146) (by decide +kernel))) rfl
theorem xc_c2 : ∀ w ∈ u_ws "RingMachine$Memory" xc_F2 4, w ∈ xw_T := by
  intro w hw
  obtain ⟨k, hk, rfl⟩ := List.mem_map.mp hw
  have hk : k < 4 := List.mem_range.mp hk
  match k, hk with
  | 0, _ => exact xc_w2_0
  | 1, _ => exact xc_w2_1
  | 2, _ => exact xc_w2_2
  | 3, _ => exact xc_w2_3
  | n + 4, hk => exact absurd hk (by omega)
theorem xc_w3_0 : Cond.laysFinal "RingMachine$Registers" "RingMachine$Registers" "cs" "LRingMachine$Descriptor;" ∈ xw_T := xw_Tin (List.mem_append_right _ (List.mem_of_getElem? (i := 106) (by decide +kernel))) rfl
theorem xc_w3_1 : Cond.laysFinal "RingMachine$Registers" "RingMachine$Registers" "ss" "LRingMachine$Descriptor;" ∈ xw_T := xw_Tin (List.mem_append_right _ (List.mem_of_getElem? (i := 108) (by decide +kernel))) rfl
theorem xc_w3_2 : Cond.laysFinal "RingMachine$Registers" "RingMachine$Registers" "ds" "LRingMachine$Descriptor;" ∈ xw_T := xw_Tin (List.mem_append_right _ (List.mem_of_getElem? (i := 110) (by decide +kernel))) rfl
theorem xc_w3_3 : Cond.lays "RingMachine$Registers" "RingMachine$Registers" "sp" "I" ∈ xw_T := xw_Tin (List.mem_append_right _ (List.mem_of_getElem? (i := 112) (by decide +kernel))) rfl
theorem xc_w3_4 : Cond.lays "RingMachine$Registers" "RingMachine$Registers" "ip" "I" ∈ xw_T := xw_Tin (List.mem_append_right _ (List.mem_of_getElem? (i := 114) (by decide +kernel))) rfl
theorem xc_w3_5 : Cond.lays "RingMachine$Registers" "RingMachine$Registers" "flags" "I" ∈ xw_T := xw_Tin (List.mem_append_right _ (List.mem_of_getElem? (i := 116) (by decide +kernel))) rfl
theorem xc_w3_6 : Cond.lays "RingMachine$Registers" "RingMachine$Registers" "ring" "I" ∈ xw_T := xw_Tin (List.mem_append_right _ (List.mem_of_getElem? (i := 118) (by decide +kernel))) rfl
theorem xc_w3_7 : Cond.lays "RingMachine$Registers" "RingMachine$Registers" "task" "I" ∈ xw_T := xw_Tin (List.mem_append_right _ (List.mem_of_getElem? (i := 120) (by decide +kernel))) rfl
theorem xc_w3_8 : Cond.lays "RingMachine$Registers" "RingMachine$Registers" "taskState" "I" ∈ xw_T := xw_Tin (List.mem_append_right _ (List.mem_of_getElem? (i := 122) (by decide +kernel))) rfl
theorem xc_w3_9 : Cond.lays "RingMachine$Registers" "RingMachine$Registers" "directory" "I" ∈ xw_T := xw_Tin (List.mem_append_right _ (List.mem_of_getElem? (i := 124) (by decide +kernel))) rfl
theorem xc_w3_10 : Cond.lays "RingMachine$Registers" "RingMachine$Registers" "accumulator" "I" ∈ xw_T := xw_Tin (List.mem_append_right _ (List.mem_of_getElem? (i := 126) (by decide +kernel))) rfl
theorem xc_c3 : ∀ w ∈ u_ws "RingMachine$Registers" xc_F3 11, w ∈ xw_T := by
  intro w hw
  obtain ⟨k, hk, rfl⟩ := List.mem_map.mp hw
  have hk : k < 11 := List.mem_range.mp hk
  match k, hk with
  | 0, _ => exact xc_w3_0
  | 1, _ => exact xc_w3_1
  | 2, _ => exact xc_w3_2
  | 3, _ => exact xc_w3_3
  | 4, _ => exact xc_w3_4
  | 5, _ => exact xc_w3_5
  | 6, _ => exact xc_w3_6
  | 7, _ => exact xc_w3_7
  | 8, _ => exact xc_w3_8
  | 9, _ => exact xc_w3_9
  | 10, _ => exact xc_w3_10
  | n + 11, hk => exact absurd hk (by omega)
theorem xc_w4_0 : Cond.laysFinal "RingMachine" "RingMachine" "fault" "LRingMachine$Fault;" ∈ xw_T := xw_Tin (List.mem_append_right _ (List.mem_of_getElem? (i := 165) (by decide +kernel))) rfl
theorem xc_w4_1 : Cond.laysFinal "RingMachine" "RingMachine" "now" "LRingMachine$Registers;" ∈ xw_T := xw_Tin (List.mem_append_right _ (List.mem_of_getElem? (i := 167) (by decide +kernel))) rfl
theorem xc_w4_2 : Cond.laysFinal "RingMachine" "RingMachine" "before" "LRingMachine$Registers;" ∈ xw_T := xw_Tin (List.mem_append_right _ (List.mem_of_getElem? (i := 169) (by decide +kernel))) rfl
theorem xc_w4_3 : Cond.laysFinal "RingMachine" "RingMachine" "memory" "LRingMachine$Memory;" ∈ xw_T := xw_Tin (List.mem_append_right _ (List.mem_of_getElem? (i := 171) (by decide +kernel))) rfl
theorem xc_w4_4 : Cond.laysFinal "RingMachine" "RingMachine" "entry" "LRingMachine$Descriptor;" ∈ xw_T := xw_Tin (List.mem_append_right _ (List.mem_of_getElem? (i := 173) (by decide +kernel))) rfl
theorem xc_w4_5 : Cond.laysFinal "RingMachine" "RingMachine" "target" "LRingMachine$Descriptor;" ∈ xw_T := xw_Tin (List.mem_append_right _ (List.mem_of_getElem? (i := 175) (by decide +kernel))) rfl
theorem xc_w4_6 : Cond.laysFinal "RingMachine" "RingMachine" "stack" "LRingMachine$Descriptor;" ∈ xw_T := xw_Tin (List.mem_append_right _ (List.mem_of_getElem? (i := 177) (by decide +kernel))) rfl
theorem xc_w4_7 : Cond.laysFinal "RingMachine" "RingMachine" "state" "[I" ∈ xw_T := xw_Tin (List.mem_append_right _ (List.mem_of_getElem? (i := 179) (by decide +kernel))) rfl
theorem xc_w4_8 : Cond.laysFinal "RingMachine" "RingMachine" "words" "[I" ∈ xw_T := xw_Tin (List.mem_append_right _ (List.mem_of_getElem? (i := 181) (by decide +kernel))) rfl
theorem xc_w4_9 : Cond.lays "RingMachine" "RingMachine" "table" "I" ∈ xw_T := xw_Tin (List.mem_append_right _ (List.mem_of_getElem? (i := 183) (by decide +kernel))) rfl
theorem xc_w4_10 : Cond.lays "RingMachine" "RingMachine" "count" "I" ∈ xw_T := xw_Tin (List.mem_append_right _ (List.mem_of_getElem? (i := 185) (by decide +kernel))) rfl
theorem xc_w4_11 : Cond.lays "RingMachine" "RingMachine" "vectors" "I" ∈ xw_T := xw_Tin (List.mem_append_right _ (List.mem_of_getElem? (i := 187) (by decide +kernel))) rfl
theorem xc_w4_12 : Cond.lays "RingMachine" "RingMachine" "down" "Z" ∈ xw_T := xw_Tin (List.mem_append_right _ (List.mem_of_getElem? (i := 189) (by decide +kernel))) rfl
theorem xc_c4 : ∀ w ∈ u_ws "RingMachine" xc_F4 13, w ∈ xw_T := by
  intro w hw
  obtain ⟨k, hk, rfl⟩ := List.mem_map.mp hw
  have hk : k < 13 := List.mem_range.mp hk
  match k, hk with
  | 0, _ => exact xc_w4_0
  | 1, _ => exact xc_w4_1
  | 2, _ => exact xc_w4_2
  | 3, _ => exact xc_w4_3
  | 4, _ => exact xc_w4_4
  | 5, _ => exact xc_w4_5
  | 6, _ => exact xc_w4_6
  | 7, _ => exact xc_w4_7
  | 8, _ => exact xc_w4_8
  | 9, _ => exact xc_w4_9
  | 10, _ => exact xc_w4_10
  | 11, _ => exact xc_w4_11
  | 12, _ => exact xc_w4_12
  | n + 13, hk => exact absurd hk (by omega)
theorem xc_w5_0 : Cond.lays "RingMachineModel" "RingMachineModel" "memory" "[I" ∈ xw_T := xw_Tin (List.mem_append_right _ (List.mem_of_getElem? (i := 561) (by decide +kernel))) rfl
theorem xc_w5_1 : Cond.lays "RingMachineModel" "RingMachineModel" "paged" "Z" ∈ xw_T := xw_Tin (List.mem_append_right _ (List.mem_of_getElem? (i := 563) (by decide +kernel))) rfl
theorem xc_w5_2 : Cond.lays "RingMachineModel" "RingMachineModel" "table" "I" ∈ xw_T := xw_Tin (List.mem_append_right _ (List.mem_of_getElem? (i := 565) (by decide +kernel))) rfl
theorem xc_w5_3 : Cond.lays "RingMachineModel" "RingMachineModel" "count" "I" ∈ xw_T := xw_Tin (List.mem_append_right _ (List.mem_of_getElem? (i := 567) (by decide +kernel))) rfl
theorem xc_w5_4 : Cond.lays "RingMachineModel" "RingMachineModel" "vectors" "I" ∈ xw_T := xw_Tin (List.mem_append_right _ (List.mem_of_getElem? (i := 569) (by decide +kernel))) rfl
theorem xc_w5_5 : Cond.lays "RingMachineModel" "RingMachineModel" "\x72" "[I" ∈ xw_T := xw_Tin (List.mem_append_right _ (List.mem_of_getElem? (i := 571) (by decide +kernel))) rfl
theorem xc_w5_6 : Cond.lays "RingMachineModel" "RingMachineModel" "kept" "[I" ∈ xw_T := xw_Tin (List.mem_append_right _ (List.mem_of_getElem? (i := 573) (by decide +kernel))) rfl
theorem xc_w5_7 : Cond.lays "RingMachineModel" "RingMachineModel" "faultAddress" "I" ∈ xw_T := xw_Tin (List.mem_append_right _ (List.mem_of_getElem? (i := 575) (by decide +kernel))) rfl
theorem xc_w5_8 : Cond.lays "RingMachineModel" "RingMachineModel" "down" "Z" ∈ xw_T := xw_Tin (List.mem_append_right _ (List.mem_of_getElem? (i := 577) (by decide +kernel))) rfl
theorem xc_w5_9 : Cond.lays "RingMachineModel" "RingMachineModel" "raised" "I" ∈ xw_T := xw_Tin (List.mem_append_right _ (List.mem_of_getElem? (i := 579) (by decide +kernel))) rfl
theorem xc_w5_10 : Cond.lays "RingMachineModel" "RingMachineModel" "switched" "Z" ∈ xw_T := xw_Tin (List.mem_append_right _ (List.mem_of_getElem? (i := 581) (by decide +kernel))) rfl
theorem xc_w5_11 : Cond.lays "RingMachineModel" "RingMachineModel" "went" "Z" ∈ xw_T := xw_Tin (List.mem_append_right _ (List.mem_of_getElem? (i := 583) (by decide +kernel))) rfl
theorem xc_w5_12 : Cond.lays "RingMachineModel" "RingMachineModel" "bases" "[I" ∈ xw_T := xw_Tin (List.mem_append_right _ (List.mem_of_getElem? (i := 585) (by decide +kernel))) rfl
theorem xc_w5_13 : Cond.lays "RingMachineModel" "RingMachineModel" "limits" "[I" ∈ xw_T := xw_Tin (List.mem_append_right _ (List.mem_of_getElem? (i := 587) (by decide +kernel))) rfl
theorem xc_w5_14 : Cond.lays "RingMachineModel" "RingMachineModel" "kinds" "[I" ∈ xw_T := xw_Tin (List.mem_append_right _ (List.mem_of_getElem? (i := 589) (by decide +kernel))) rfl
theorem xc_w5_15 : Cond.lays "RingMachineModel" "RingMachineModel" "levels" "[I" ∈ xw_T := xw_Tin (List.mem_append_right _ (List.mem_of_getElem? (i := 591) (by decide +kernel))) rfl
theorem xc_w5_16 : Cond.lays "RingMachineModel" "RingMachineModel" "present" "[Z" ∈ xw_T := xw_Tin (List.mem_append_right _ (List.mem_of_getElem? (i := 593) (by decide +kernel))) rfl
theorem xc_w5_17 : Cond.lays "RingMachineModel" "RingMachineModel" "counts" "[I" ∈ xw_T := xw_Tin (List.mem_append_right _ (List.mem_of_getElem? (i := 595) (by decide +kernel))) rfl
theorem xc_w5_18 : Cond.lays "RingMachineModel" "RingMachineModel" "words" "[I" ∈ xw_T := xw_Tin (List.mem_append_right _ (List.mem_of_getElem? (i := 597) (by decide +kernel))) rfl
theorem xc_c5 : ∀ w ∈ u_ws "RingMachineModel" xc_F5 19, w ∈ xw_T := by
  intro w hw
  obtain ⟨k, hk, rfl⟩ := List.mem_map.mp hw
  have hk : k < 19 := List.mem_range.mp hk
  match k, hk with
  | 0, _ => exact xc_w5_0
  | 1, _ => exact xc_w5_1
  | 2, _ => exact xc_w5_2
  | 3, _ => exact xc_w5_3
  | 4, _ => exact xc_w5_4
  | 5, _ => exact xc_w5_5
  | 6, _ => exact xc_w5_6
  | 7, _ => exact xc_w5_7
  | 8, _ => exact xc_w5_8
  | 9, _ => exact xc_w5_9
  | 10, _ => exact xc_w5_10
  | 11, _ => exact xc_w5_11
  | 12, _ => exact xc_w5_12
  | 13, _ => exact xc_w5_13
  | 14, _ => exact xc_w5_14
  | 15, _ => exact xc_w5_15
  | 16, _ => exact xc_w5_16
  | 17, _ => exact xc_w5_17
  | 18, _ => exact xc_w5_18
  | n + 19, hk => exact absurd hk (by omega)
theorem xw_cl1 : ∀ (ci : Nat) (q : vw_C), vwCl[ci]? = some q → ∀ w ∈ u_ws q.1 q.2.1 q.2.2, w ∈ xw_T := xw_clP (P := fun _ q => ∀ w ∈ u_ws q.1 q.2.1 q.2.2, w ∈ xw_T) xc_c0 xc_c1 xc_c2 xc_c3 xc_c4 xc_c5
theorem xw_cl2 : ∀ (ci : Nat) (q : vw_C), vwCl[ci]? = some q → ∀ k, k < q.2.2 → parseFieldDescriptor (q.2.1 k).2.2.1 = some (xw_fT ci k) := xw_clP (P := fun ci q => ∀ k, k < q.2.2 → parseFieldDescriptor (q.2.1 k).2.2.1 = some (xw_fT ci k)) (by decide +kernel) (by decide +kernel) (by decide +kernel) (by decide +kernel) (by decide +kernel) (by decide +kernel)
theorem xw_cl3 : ∀ (ci : Nat) (q : vw_C), vwCl[ci]? = some q → ∀ a, a < q.2.2 → ∀ b, b < q.2.2 → a ≠ b → (q.2.1 a).2.1 ≠ (q.2.1 b).2.1 := xw_clP (P := fun _ q => ∀ a, a < q.2.2 → ∀ b, b < q.2.2 → a ≠ b → (q.2.1 a).2.1 ≠ (q.2.1 b).2.1) (by decide +kernel) (by decide +kernel) (by decide +kernel) (by decide +kernel) (by decide +kernel) (by decide +kernel)
theorem xw_cl0 : ∀ (ci : Nat) (q : vw_C), vwCl[ci]? = some q → ∀ k, k < q.2.2 → xw_ft ci k ≠ 3 := xw_clP (P := fun ci q => ∀ k, k < q.2.2 → xw_ft ci k ≠ 3) (by decide +kernel) (by decide +kernel) (by decide +kernel) (by decide +kernel) (by decide +kernel) (by decide +kernel)
theorem xw_cl4 (ci k : Nat) (q : vw_C) (_ : vwCl[ci]? = some q) (_ : k < q.2.2) (h : xw_ft ci k = 0) : xw_fT ci k = .int := by
  unfold xw_ft at h
  split at h <;> first | assumption | cases h
theorem xw_cl5 (ci k : Nat) (q : vw_C) (_ : vwCl[ci]? = some q) (_ : k < q.2.2) (h : xw_ft ci k = 1) : xw_fT ci k = .boolean := by
  unfold xw_ft at h
  split at h <;> first | assumption | cases h
theorem xw_cl6 (ci k : Nat) (q : vw_C) (_ : vwCl[ci]? = some q) (_ : k < q.2.2) (h : xw_ft ci k = 2) : (∀ a, narrow (xw_fT ci k) (.ref a) = .ref a) ∧ ∀ a, fits (xw_fT ci k) (.ref a) = true := by
  unfold xw_ft at h
  split at h
  · cases h
  · cases h
  · next hh => rw [hh]; exact ⟨fun _ => rfl, fun _ => rfl⟩
  · next hh => rw [hh]; exact ⟨fun _ => rfl, fun _ => rfl⟩
  · cases h
theorem xw_cl7 (ci k : Nat) (q : vw_C) (hq : vwCl[ci]? = some q) (hk : k < q.2.2) (G : xw_G) : defaultValue (xw_fT ci k) = xw_fv (xw_ft ci k) G 0 none := by
  have h0 := xw_cl0 ci q hq k hk
  unfold xw_ft at h0 ⊢
  split at h0
  · next hh => rw [hh]; rfl
  · next hh => rw [hh]; rfl
  · next hh => rw [hh]; rfl
  · next hh => rw [hh]; rfl
  · exact absurd rfl h0
/-! The cells of the law: the script, the class's, the reference's, then exceptions. -/
def xk_k (N : Nat) : Nat → Nat × Nat := fun i => match i with
  | 0 => (3, N)
  | 1 => (0, 4)
  | 2 => (0, 1)
  | 3 => (0, 3)
  | 4 => (0, 0)
  | 5 => (0, 0)
  | 6 => (0, 0)
  | 7 => (0, 3)
  | 8 => (0, 0)
  | 9 => (0, 0)
  | 10 => (0, 0)
  | 11 => (0, 2)
  | 12 => (1, 2048)
  | 13 => (0, 0)
  | 14 => (0, 0)
  | 15 => (0, 0)
  | 16 => (1, 8)
  | 17 => (1, 7)
  | 18 => (0, 5)
  | 19 => (1, 2048)
  | 20 => (1, 26)
  | 21 => (1, 26)
  | 22 => (1, 2)
  | 23 => (1, 2)
  | 24 => (1, 2)
  | 25 => (1, 2)
  | 26 => (2, 2)
  | 27 => (1, 2)
  | 28 => (1, 8)
  | _ => (4, 0)
theorem xk_e {N n : Nat} (hn : 29 ≤ n) : xk_k N n = (4, 0) := by
  obtain ⟨m, rfl⟩ : ∃ m, n = m + 29 := ⟨n - 29, by omega⟩
  rfl
def xr_0 : xs_R := fun a b => if a = 1 then (if b = 0 then some 2 else if b = 1 then some 3 else if b = 2 then some 7 else if b = 3 then some 11 else if b = 4 then some 13 else if b = 5 then some 14 else if b = 6 then some 15 else if b = 7 then some 16 else if b = 8 then some 17 else none) else if a = 3 then (if b = 0 then some 4 else if b = 1 then some 5 else if b = 2 then some 6 else none) else if a = 7 then (if b = 0 then some 8 else if b = 1 then some 9 else if b = 2 then some 10 else none) else if a = 11 then (if b = 0 then some 2 else if b = 1 then some 3 else if b = 2 then some 12 else none) else if a = 18 then (if b = 0 then some 19 else if b = 5 then some 20 else if b = 6 then some 21 else if b = 12 then some 22 else if b = 13 then some 23 else if b = 14 then some 24 else if b = 15 then some 25 else if b = 16 then some 26 else if b = 17 then some 27 else if b = 18 then some 28 else none) else none
end
section
/-! What a heap holds of a world; a method's stretch and a method's contract over worlds. -/
/-- what the heap holds of cell i: κ i = (0, class), (1, length of an int array), (2, of a boolean array), (3, of the script), (4, _) an exception -/
def xw_C (κ : Nat → Nat × Nat) (G : xw_G) (σ : xs_S) (ρ : xs_R) (s : State) (H : Heap) (i : Nat) : Prop :=
  ((κ i).1 = 0 → ∃ q : vw_C, vwCl[(κ i).2]? = some q ∧ t_OB (xw_ad G i) (G.1.1 (κ i).2) q.2.2 (G.1.2 (κ i).2) H (fun k => xw_fv (xw_ft (κ i).2 k) G (σ i k) (ρ i k))) ∧
  ((κ i).1 = 1 → H[xw_ad G i]? = some (arrV G.2.1.1 (κ i).2 (fun j => .int (σ i j)))) ∧
  ((κ i).1 = 2 → H[xw_ad G i]? = some (arrV G.2.1.2.1 (κ i).2 (fun j => .int (σ i j)))) ∧
  ((κ i).1 = 3 → ∃ scr : Cell, H[xw_ad G i]? = some scr ∧ s.isArrayOf scr .int ∧ scr.vm ≠ .unknown ∧ scr.slots.size = (κ i).2 ∧ ∀ j : Nat, j < (κ i).2 → scr.slots[j]? = some (.int (σ i j))) ∧
  (4 ≤ (κ i).1 → ∃ cell : Cell, H[xw_ad G i]? = some cell ∧ cell.cls = G.2.1.2.2 ∧ cell.vm = .none)
theorem xw_C.kept {κ : Nat → Nat × Nat} {G : xw_G} {σ σ' : xs_S} {ρ ρ' : xs_R} {s : State} {H H' : Heap} {i : Nat} (h : xw_C κ G σ ρ s H i) (h2 : H'[xw_ad G i]? = H[xw_ad G i]?) (h3 : ∀ k, σ' i k = σ i k) (h4 : ∀ k, ρ' i k = ρ i k) : xw_C κ G σ' ρ' s H' i := by
  have e3 : σ' i = σ i := funext h3
  have e4 : ρ' i = ρ i := funext h4
  obtain ⟨a0, a1, a2, a3, a4⟩ := h
  unfold xw_C
  rw [e3, e4, h2]
  refine ⟨fun z => ?_, a1, a2, a3, a4⟩
  obtain ⟨q, h5, h6⟩ := a0 z
  exact ⟨q, h5, h6.kept h2⟩
theorem xw_C.moved {κ : Nat → Nat × Nat} {G : xw_G} {σ : xs_S} {ρ : xs_R} {u U : State} {H : Heap} {i : Nat} (hvm : u.vm.Alike U.vm) (h : xw_C κ G σ ρ u H i) : xw_C κ G σ ρ U H i := by
  obtain ⟨a0, a1, a2, a3, a4⟩ := h
  refine ⟨a0, a1, a2, fun z => ?_, a4⟩
  obtain ⟨scr, h1, h2, h3⟩ := a3 z
  exact ⟨scr, h1, State.isArrayOf_alike hvm h2, h3⟩
theorem xw_C.at {κ : Nat → Nat × Nat} {G : xw_G} {σ : xs_S} {ρ : xs_R} {s : State} {H : Heap} {i : Nat} (h : xw_C κ G σ ρ s H i) : ∃ cell : Cell, H[xw_ad G i]? = some cell ∧ cell.vm.isStatics = false := by
  obtain ⟨a0, a1, a2, a3, a4⟩ := h
  rcases (by omega : (κ i).1 = 0 ∨ (κ i).1 = 1 ∨ (κ i).1 = 2 ∨ (κ i).1 = 3 ∨ 4 ≤ (κ i).1) with z | z | z | z | z
  · obtain ⟨q, -, cell, h1, -, h3, -⟩ := a0 z
    exact ⟨cell, h1, by rw [h3]; rfl⟩
  · exact ⟨_, a1 z, rfl⟩
  · exact ⟨_, a2 z, rfl⟩
  · obtain ⟨scr, h1, h2, -⟩ := a3 z
    refine ⟨scr, h1, ?_⟩
    cases hv : scr.vm with
    | statics k => exact absurd hv (h2.1 k)
    | _ => rfl
  · obtain ⟨cell, h1, -, h3⟩ := a4 z
    exact ⟨cell, h1, by rw [h3]; rfl⟩
/-- a heap holds a world -/
def xw_R (κ : Nat → Nat × Nat) (G : xw_G) (w : xw_W) (s : State) (H : Heap) : Prop :=
  (∀ i, i < w.1 → xw_C κ G w.2.2.1 w.2.2.2 s H i) ∧ G.2.2.1 < G.2.2.2 ∧ (1 ≤ w.1 ∧ H.size = G.2.2.2 + (w.1 - 1)) ∧
  (xw_z Jvm.Bundle.tN "UNASSIGNED_STACK" Jvm.Bundle.steD s H ∧ xw_z Jvm.Bundle.tN "SUPPRESSED_SENTINEL" Jvm.Bundle.listD s H) ∧
  va_K G.1 vwCl [(G.2.1.1, .int), (G.2.1.2.1, .boolean)] s ∧ s.vm.findClass "java/lang/IllegalStateException" = some G.2.1.2.2
theorem xw_R.moved {κ : Nat → Nat × Nat} {G : xw_G} {w : xw_W} {u U : State} {H : Heap} (hvm : u.vm.Alike U.vm) (h : xw_R κ G w u H) : xw_R κ G w U H := by
  obtain ⟨a, b, c, d, e, f⟩ := h
  exact ⟨fun i hi => (a i hi).moved hvm, b, c, ⟨d.1.moved hvm, d.2.moved hvm⟩, va_K.moved hvm e, by rw [hvm.findClass]; exact f⟩
/-- one cell is written -/
theorem xw_R.put {κ : Nat → Nat × Nat} {G : xw_G} {n u : Nat} {σ σ' : xs_S} {ρ ρ' : xs_R} {s : State} {H H' : Heap} {i : Nat} (h : xw_R κ G (n, u, σ, ρ) s H) (hi : i < n) (hz : H'.size = H.size) (ho : ∀ q, q ≠ xw_ad G i → H'[q]? = H[q]?) (hc : xw_C κ G σ' ρ' s H' i) (h3 : ∀ j k, j ≠ i → σ' j k = σ j k) (h4 : ∀ j k, j ≠ i → ρ' j k = ρ j k) : xw_R κ G (n, u, σ', ρ') s H' := by
  obtain ⟨a, b, c, d, e, f⟩ := h
  obtain ⟨cl, hcl, hns⟩ := (a i hi).at
  have hk : ∀ (q : Nat) (cell : Cell), H[q]? = some cell → cell.vm.isStatics = true → H'[q]? = some cell := by
    intro q cell h1 h2
    rw [ho q (fun z => by
      subst z
      have h5 := Option.some.inj (h1.symm.trans hcl)
      rw [h5, hns] at h2
      cases h2)]
    exact h1
  refine ⟨fun j hj => ?_, b, ⟨c.1, by rw [hz]; exact c.2⟩, ⟨d.1.kept hk, d.2.kept hk⟩, e, f⟩
  by_cases hji : j = i
  · subst hji; exact hc
  · exact (a j hj).kept (ho _ (fun z => hji (xw_adi b z))) (fun k => h3 j k hji) (fun k => h4 j k hji)
/-- a cell is made -/
theorem xw_R.new {κ : Nat → Nat × Nat} {G : xw_G} {n u u' : Nat} {σ σ' : xs_S} {ρ ρ' : xs_R} {s : State} {H H' : Heap} (h : xw_R κ G (n, u, σ, ρ) s H) (hz : H'.size = H.size + 1) (ho : ∀ q, q < H.size → H'[q]? = H[q]?) (hc : xw_C κ G σ' ρ' s H' n) (h3 : ∀ j k, j ≠ n → σ' j k = σ j k) (h4 : ∀ j k, j ≠ n → ρ' j k = ρ j k) : xw_R κ G (n + 1, u', σ', ρ') s H' := by
  obtain ⟨a, b, c, d, e, f⟩ := h
  have hk : ∀ (q : Nat) (cell : Cell), H[q]? = some cell → cell.vm.isStatics = true → H'[q]? = some cell := by
    intro q cell h1 h2
    rw [ho q (Array.getElem?_eq_some_iff.mp h1).1]
    exact h1
  have c1 : 1 ≤ n := c.1
  have c2 : H.size = G.2.2.2 + (n - 1) := c.2
  refine ⟨fun j hj => ?_, b, ⟨Nat.le_add_left 1 n, ?_⟩, ⟨d.1.kept hk, d.2.kept hk⟩, e, f⟩
  · by_cases hji : j = n
    · subst hji; exact hc
    · have hj' : j < n := by
        have : j < n + 1 := hj
        omega
      obtain ⟨cl, hcl, -⟩ := (a j hj').at
      exact (a j hj').kept (ho _ (Array.getElem?_eq_some_iff.mp hcl).1) (fun k => h3 j k hji) (fun k => h4 j k hji)
  · show H'.size = G.2.2.2 + (n + 1 - 1)
    rw [hz, c2]
    omega
theorem xw_R.next {κ : Nat → Nat × Nat} {G : xw_G} {w : xw_W} {s : State} {H : Heap} (h : xw_R κ G w s H) : H.size = xw_ad G w.1 := by
  rw [xw_adp G h.2.2.1.1]
  exact h.2.2.1.2
/-- the locals of the small machine -/
def xw_la : Nat → List (Option Value) → List (Nat × Value)
  | _, [] => []
  | i, none :: t => xw_la (i + 1) t
  | i, some v :: t => (i, v) :: xw_la (i + 1) t
theorem xw_la_mem (L : List (Option Value)) : ∀ (i0 : Nat) (q : Nat × Value), q ∈ xw_la i0 L ↔ ∃ k, q.1 = i0 + k ∧ L[k]? = some (some q.2) := by
  induction L with
  | nil => intro i0 q; simp [xw_la]
  | cons o t ih =>
    intro i0 q
    cases o with
    | none =>
      rw [xw_la, ih]
      constructor
      · rintro ⟨k, h1, h2⟩
        exact ⟨k + 1, by omega, by simpa using h2⟩
      · rintro ⟨k, h1, h2⟩
        cases k with
        | zero => simp at h2
        | succ k => exact ⟨k, by omega, by simpa using h2⟩
    | some v =>
      rw [xw_la, List.mem_cons, ih]
      constructor
      · rintro (rfl | ⟨k, h1, h2⟩)
        · exact ⟨0, by simp, by simp⟩
        · exact ⟨k + 1, by omega, by simpa using h2⟩
      · rintro ⟨k, h1, h2⟩
        cases k with
        | zero =>
          left
          obtain ⟨a, b⟩ := q
          simp at h1 h2
          rw [h1, h2]
        | succ k => exact Or.inr ⟨k, by omega, by simpa using h2⟩
def xw_L (nL : Nat) (G : xw_G) (L : List (Option Value)) (ls : Array Slot) : Prop := lv_has ls nL ((xw_la 0 L).map fun q => (q.1, xw_tv G q.2))
theorem xw_L.get {nL : Nat} {G : xw_G} {L : List (Option Value)} {ls : Array Slot} (h : xw_L nL G L ls) {i : Nat} {v : Value} (hi : L[i]? = some (some v)) : ls[i]? = some (.val (xw_tv G v)) :=
  h.2.2 (i, xw_tv G v) (List.mem_map.mpr ⟨(i, v), (xw_la_mem L 0 (i, v)).mpr ⟨i, by simp, hi⟩, rfl⟩)
theorem xw_L.sub {nL : Nat} {G : xw_G} {L : List (Option Value)} {ls : Array Slot} {l : List (Nat × Value)} (h : lv_has ls nL l) (hs : ∀ i v, L[i]? = some (some v) → (i, xw_tv G v) ∈ l) : xw_L nL G L ls := by
  refine ⟨h.1, h.2.1, fun q hq => ?_⟩
  obtain ⟨⟨i, v⟩, h1, rfl⟩ := List.mem_map.mp hq
  obtain ⟨k, h2, h3⟩ := (xw_la_mem L 0 (i, v)).mp h1
  have h2 : i = k := by simpa using h2
  subst h2
  exact h.2.2 _ (hs _ v h3)
/-- the words of all tables that hold on -/
def xw_cw (M : xw_M) : Cond := match M.2.2.2.2.1 with
  | [] => .code M.1 M.2.1 M.2.2.1 M.2.2.2.1
  | h :: t => .codeWith M.1 M.2.1 M.2.2.1 M.2.2.2.1 (h :: t)
theorem xw_cw_spec {M : xw_M} {args : Array Value} {s : State} {m : MethodId} (hn : s.methodNamed? M.1 = some m) (h : (xw_cw M).before args s = true) :
    ∃ meth c, s.vm.method? m = some meth ∧ meth.code = some c ∧ c.code = M.2.1 ∧ c.maxLocals = M.2.2.1 ∧ meth.sig.returnType = M.2.2.2.1 ∧ meth.locks = false ∧ c.exceptionTable.toList.map (fun h => (h.startPc, h.endPc, h.handlerPc, h.catchType)) = M.2.2.2.2.1 ∧ parseMethodDescriptor M.1.desc = some meth.sig := by
  unfold xw_cw at h
  split at h
  · next hh =>
    obtain ⟨meth, c, h1, h2, h3, h4, h5, h6, h7, h8⟩ := Cond.code_spec hn h
    refine ⟨meth, c, h1, h2, h3, h4, h5, h6, ?_, h8⟩
    have h9 : c.exceptionTable = #[] := by simpa using h7
    rw [h9, hh]
    rfl
  · next a t hh =>
    obtain ⟨m', meth, c, h0, h1, h2, h3, h4, h7, h5, h6, h8⟩ := Cond.codeWith_spec h
    cases hn.symm.trans h0
    exact ⟨meth, c, h1, h2, h3, h4, h5, h6, by rw [h7, hh], h8⟩
theorem xw_Tmove {s U : State} {args a' : Array Value} (hW : s.WarmedH U.vm) (h : ∀ w ∈ xw_T, w.before args s = true) : ∀ w ∈ xw_T, w.before a' U = true :=
  fun w hw => xw_gw_move hW (List.mem_filter.mp hw).2 (h w hw)
/-- a method that stands in the tables -/
def xw_ok (M : xw_M) : Prop := xw_cw M ∈ xw_T ∧ Cond.initialized M.1.cls ∈ xw_T ∧ plainName M.1.cls = true ∧ M.1.cls ≠ "java/lang/invoke/MethodHandle" ∧ M.1.cls ≠ "java/lang/invoke/VarHandle"
/-- what stands while a method runs -/
def xw_S (κ : Nat → Nat × Nat) (G : xw_G) (l : Launch) (M : xw_M) (p : Program) (R : Room) (s : State) (m : MethodId) (args : Array Value) (meth : Method) (c : Code) : Prop :=
  p.tables.exec = Jvm.exec ∧ c.code = M.2.1 ∧ c.maxLocals = M.2.2.1 ∧ meth.sig.returnType = M.2.2.2.1 ∧ meth.locks = false ∧ s.vm.findClass M.1.cls = some m.cls ∧ meth.name = M.1.name ∧ (∀ w ∈ xw_T, w.before args s = true) ∧ l.stackTraces = false ∧
  c.exceptionTable.toList.map (fun h => (h.startPc, h.endPc, h.handlerPc, h.catchType)) = M.2.2.2.2.1 ∧ (R.frames = M.2.2.2.2.2.1 ∧ R.locals = M.2.2.2.2.2.2) ∧ ∃ w0, xw_R κ G w0 s s.heap
abbrev xw_lc (G : xw_G) (locs : List Loc) : Prop := ∀ q ∈ locs, ∃ i, 0 < i ∧ q.base = xw_ad G i
/-- where a stretch ends -/
def xw_Q (κ : Nat → Nat × Nat) (G : xw_G) (below : List Frame) (s : State) (E : xw_O × xw_W) (mc ms : Nat) : State → Prop := fun t =>
  ∃ (o : Outcome) (L : List Loc), t.status = .running ∧ Ended t below o ∧ (match E.1 with | .inl v => o = .returned (v.map (xw_tv G)) | .inr i => o = .threw (xw_ad G i)) ∧
    xw_R κ G E.2 s t.heap ∧ s.WarmedH t.vm ∧ s.sameButNew ({ t with vm := s.vm } : State) L mc ms ∧ xw_lc G L
/-- from pc, with these locals, this stack and this world, the method comes to E -/
def xw_w (κ : Nat → Nat × Nat) (l : Launch) (M : xw_M) (pc : Nat) (L : List (Option Value)) (S : List Value) (w : xw_W) (E : xw_O × xw_W) : Prop :=
  (w.1 ≤ E.2.1 ∧ w.2.1 ≤ E.2.2.1) ∧
  ∀ (G : xw_G) (p : Program) (e : Env) (R : Room) (s : State) (m : MethodId) (args : Array Value) (below : List Frame) (meth : Method) (c : Code) (H : Heap) (locs : List Loc) (cells slots : Nat) (ls : Array Slot),
    xw_S κ G l M p R s m args meth c → xw_R κ G w s H → xw_L M.2.2.1 G L ls → xw_lc G locs → cells + (E.2.1 - w.1) ≤ R.cells → slots + (E.2.2.1 - w.2.1) ≤ R.slots →
    W p l e R s m args below meth c H locs cells slots (xw_Q κ G below s E (cells + (E.2.1 - w.1)) (slots + (E.2.2.1 - w.2.1))) (F0 m pc ls (S.map (xw_tv G)))
/-- called with av in the world w, the method comes to E -/
def xm_m (κ : Nat → Nat × Nat) (l : Launch) (M : xw_M) (av : List Value) (w : xw_W) (E : xw_O × xw_W) : Prop :=
  (w.1 ≤ E.2.1 ∧ w.2.1 ≤ E.2.2.1) ∧
  ∀ G : xw_G, MetFree l M.1 (headSpec xw_T { frames := M.2.2.2.2.2.1, cells := E.2.1 - w.1, slots := E.2.2.1 - w.2.1, locals := M.2.2.2.2.2.2 }) (fun a U => a = (av.map (xw_tv G)).toArray ∧ xw_R κ G w U U.heap) (fun _ _ _ _ _ => True)
    (fun _ st o t => (match E.1 with | .inl v => o = .returned (v.map (xw_tv G)) | .inr i => o = .threw (xw_ad G i)) ∧ xw_R κ G E.2 st t.heap ∧ st.WarmedH t.vm ∧ ∃ L, st.sameButNew ({ t with vm := st.vm } : State) L (E.2.1 - w.1) (E.2.2.1 - w.2.1) ∧ xw_lc G L)
end
section
/-! A contract out of a stretch; ends; calls with both ends; throwing and catching. -/
def xw_en : List Value → List (Option Value)
  | [] => []
  | v :: t => if v.category = 2 then some v :: none :: xw_en t else some v :: xw_en t
theorem xw_en_mem (G : xw_G) : ∀ (av : List Value) (i0 k : Nat) (v : Value), (xw_en av)[k]? = some (some v) → (i0 + k, xw_tv G v) ∈ lv_args i0 (av.map (xw_tv G)) := by
  intro av
  induction av with
  | nil => intro i0 k v h; simp [xw_en] at h
  | cons u t ih =>
    intro i0 k v h
    simp only [List.map_cons, lv_args, xw_tv_cat]
    by_cases hc : u.category = 2
    · simp only [xw_en, hc, if_true] at h
      rw [if_pos hc]
      match k, h with
      | 0, h =>
        have e : u = v := by simpa using h
        rw [e, Nat.add_zero]
        exact List.mem_cons_self
      | 1, h => simp at h
      | k + 2, h =>
        have h2 := ih (i0 + 2) k v (by simpa using h)
        rw [show i0 + (k + 2) = i0 + 2 + k by omega]
        exact List.mem_cons_of_mem _ h2
    · simp only [xw_en, hc, if_false] at h
      rw [if_neg hc]
      match k, h with
      | 0, h =>
        have e : u = v := by simpa using h
        rw [e, Nat.add_zero]
        exact List.mem_cons_self
      | k + 1, h =>
        have h2 := ih (i0 + 1) k v (by simpa using h)
        rw [show i0 + (k + 1) = i0 + 1 + k by omega]
        exact List.mem_cons_of_mem _ h2
theorem xw_en_len (G : xw_G) (av : List Value) : (lg_sl (av.map (xw_tv G))).length = (xw_en av).length := by
  induction av with
  | nil => rfl
  | cons u t ih =>
    have e : lg_sl ((u :: t).map (xw_tv G)) = (if (xw_tv G u).category = 2 then [Slot.val (xw_tv G u), .second] else [.val (xw_tv G u)]) ++ lg_sl (t.map (xw_tv G)) := by simp [lg_sl]
    rw [e, List.length_append, ih, xw_tv_cat]
    by_cases hc : u.category = 2
    · simp [xw_en, hc]; omega
    · simp [xw_en, hc]; omega
theorem xm_of {κ : Nat → Nat × Nat} {l : Launch} {M : xw_M} {av : List Value} {w : xw_W} {E : xw_O × xw_W} (hl : l.stackTraces = false) (hok : xw_ok M) (hlen : (xw_en av).length ≤ M.2.2.1)
    (k : xw_w κ l M 0 (xw_en av ++ List.replicate (M.2.2.1 - (xw_en av).length) none) [] w E) : xm_m κ l M av w E := by
  refine ⟨k.1, fun G => MetFree.of_bodyS (code := M.2.1) (maxLocals := M.2.2.1) (ret := M.2.2.2.1) hok.2.2.1 ?_ ?_⟩
  · intro args s m h hn
    obtain ⟨meth, c, h1, h2, h3, h4, h5, h6, -⟩ := xw_cw_spec hn (atoms_spec (ws := xw_T) h _ hok.1)
    exact ⟨meth, c, h1, h2, h3, h4, h5, h6⟩
  · intro p e s m args below meth c s₁ B hml hP _
    obtain ⟨rfl, hR⟩ := hP
    have hts := atoms_spec (ws := xw_T) B.pre
    have X₀ := Stand.of_body B
    obtain ⟨meth', c', h1, h2, h3, h4, h5, h6, h7, h8⟩ := xw_cw_spec B.named (hts _ hok.1)
    cases B.method.symm.trans h1
    cases X₀.code.symm.trans h2
    have hh0 : s₁.heap = s.heap := by rw [B.state]; rfl
    have hle : (lg_sl (av.map (xw_tv G))).length ≤ M.2.2.1 := by rw [xw_en_len]; exact hlen
    have hlv := lv_entry (av.map (xw_tv G)) hle
    rw [lg_entry_eq]
    have hLL : xw_L M.2.2.1 G (xw_en av ++ List.replicate (M.2.2.1 - (xw_en av).length) none) ((lg_sl (av.map (xw_tv G)) ++ List.replicate (M.2.2.1 - (lg_sl (av.map (xw_tv G))).length) Slot.unset).toArray) := by
      refine xw_L.sub hlv fun i v hi => ?_
      by_cases hlt : i < (xw_en av).length
      · rw [List.getElem?_append_left hlt] at hi
        have h9 := xw_en_mem G av 0 i v hi
        rwa [Nat.zero_add] at h9
      · rw [List.getElem?_append_right (by omega)] at hi
        have h9 := List.mem_of_getElem? hi
        have h10 := List.eq_of_mem_replicate h9
        cases h10
    obtain ⟨t, a1, o, L, b1, b2, b3, b4, b5, b6, b7⟩ := k.2 G p e _ s m _ below meth c s.heap [] 0 0 _
      ⟨B.exec, h3, h4, h5, h6, findClass_of_methodNamed B.named, (name_of_methodNamed B.named B.method).1, hts, hl, h7, ⟨rfl, rfl⟩, ⟨w, hR⟩⟩ hR hLL (fun q hq => by cases hq)
      (by rw [Nat.zero_add]; exact Nat.le_refl _) (by rw [Nat.zero_add]; exact Nat.le_refl _) s₁ hh0 X₀
    rw [Nat.zero_add, Nat.zero_add] at b6
    exact ⟨t, o, a1, b1, b2, b3, b4, b5, L, b6, b7⟩
section XR
variable {κ : Nat → Nat × Nat} {l : Launch} {M : xw_M} {pc pc' : Nat} {L : List (Option Value)} {S : List Value} {w : xw_W} {E : xw_O × xw_W}
theorem xw_s {S' : List Value} (k : xw_w κ l M pc' L S' w E)
    (h : ∀ (G : xw_G) (p : Program) (e : Env) (R : Room) (s : State) (m : MethodId) (args : Array Value) (below : List Frame) (meth : Method) (c : Code) (H : Heap) (locs : List Loc) (cells slots : Nat) (ls : Array Slot) (Q : State → Prop),
      xw_S κ G l M p R s m args meth c → xw_R κ G w s H → xw_L M.2.2.1 G L ls → W p l e R s m args below meth c H locs cells slots Q (F0 m pc' ls (S'.map (xw_tv G))) → W p l e R s m args below meth c H locs cells slots Q (F0 m pc ls (S.map (xw_tv G)))) :
    xw_w κ l M pc L S w E :=
  ⟨k.1, fun G p e R s m args below meth c H locs cells slots ls hS hR hL hlo hc hs => h G p e R s m args below meth c H locs cells slots ls _ hS hR hL (k.2 G p e R s m args below meth c H locs cells slots ls hS hR hL hlo hc hs)⟩
theorem xw_e {o : xw_O × xw_W} (e : E = o) (k : xw_w κ l M pc L S w o) : xw_w κ l M pc L S w E := e ▸ k
theorem xw_iret {x : Int32} (h : xw_dec M.2.1 pc .ireturn 1 pc') (hr : M.2.2.2.1 = some .int) : xw_w κ l M pc L [.int x] w (.inl (some (.int x)), w) := by
  refine ⟨⟨Nat.le_refl _, Nat.le_refl _⟩, fun G p e R s m args below meth c H locs cells slots ls hS hR hL hlo hc hs => ?_⟩
  intro T hT X
  have hexec := hS.1
  have hb := hS.2.1
  have hdg := h.1
  have hlocks : meth.locks = false := hS.2.2.2.2.1
  have hr' : meth.sig.returnType = some .int := hS.2.2.2.1.trans hr
  obtain ⟨fs, hret, hrun, hended, hW, hframe⟩ := X.leave (v := some (.int x)) (fun h => by rw [hr'] at h; cases h) hlocks
  have hmeth' : T.vm.method? m = some meth := X.method'
  refine ⟨T.setFrames fs, ?_, .returned (some (.int x)), locs, hrun, hended, rfl, ?_, hW, ?_, hlo⟩
  · show Steps p.tables e below (T.setTop (F0 m pc ls [.int x])) _
    jvm_step X.here [X.here.top, hexec, hb, hdg, hmeth', hr', narrow]
    (try refine ⟨rfl, ?_⟩); (try refine ⟨rfl, ?_⟩)
    first | (intro acts; rw [hret _ acts rfl rfl rfl]) | rw [hret _ _ rfl rfl rfl]
    exact Steps.refl _
  · show xw_R κ G w s T.heap
    rw [hT]; exact hR
  · show s.sameButNew _ locs (cells + (w.1 - w.1)) (slots + (w.2.1 - w.2.1))
    rw [Nat.sub_self, Nat.sub_self, Nat.add_zero, Nat.add_zero]
    exact hframe
theorem xw_zret {x : Int32} (h : xw_dec M.2.1 pc .ireturn 1 pc') (hr : M.2.2.2.1 = some .boolean) (hn : x &&& 1 = x) : xw_w κ l M pc L [.int x] w (.inl (some (.int x)), w) := by
  refine ⟨⟨Nat.le_refl _, Nat.le_refl _⟩, fun G p e R s m args below meth c H locs cells slots ls hS hR hL hlo hc hs => ?_⟩
  intro T hT X
  have hexec := hS.1
  have hb := hS.2.1
  have hdg := h.1
  have hlocks : meth.locks = false := hS.2.2.2.2.1
  have hr' : meth.sig.returnType = some .boolean := hS.2.2.2.1.trans hr
  have hn' : narrow .boolean (.int x) = .int x := by show Value.int (x &&& 1) = _; rw [hn]
  obtain ⟨fs, hret, hrun, hended, hW, hframe⟩ := X.leave (v := some (.int x)) (fun h => by rw [hr'] at h; cases h) hlocks
  have hmeth' : T.vm.method? m = some meth := X.method'
  refine ⟨T.setFrames fs, ?_, .returned (some (.int x)), locs, hrun, hended, rfl, ?_, hW, ?_, hlo⟩
  · show Steps p.tables e below (T.setTop (F0 m pc ls [.int x])) _
    jvm_step X.here [X.here.top, hexec, hb, hdg, hmeth', hr', hn']
    (try refine ⟨rfl, ?_⟩); (try refine ⟨rfl, ?_⟩)
    first | (intro acts; rw [hret _ acts rfl rfl rfl]) | rw [hret _ _ rfl rfl rfl]
    exact Steps.refl _
  · show xw_R κ G w s T.heap
    rw [hT]; exact hR
  · show s.sameButNew _ locs (cells + (w.1 - w.1)) (slots + (w.2.1 - w.2.1))
    rw [Nat.sub_self, Nat.sub_self, Nat.add_zero, Nat.add_zero]
    exact hframe
theorem xw_lret {x : Int64} (h : xw_dec M.2.1 pc .lreturn 1 pc') (hr : M.2.2.2.1 = some .long) : xw_w κ l M pc L [.long x] w (.inl (some (.long x)), w) := by
  refine ⟨⟨Nat.le_refl _, Nat.le_refl _⟩, fun G p e R s m args below meth c H locs cells slots ls hS hR hL hlo hc hs => ?_⟩
  intro T hT X
  have hexec := hS.1
  have hb := hS.2.1
  have hdg := h.1
  have hlocks : meth.locks = false := hS.2.2.2.2.1
  have hr' : meth.sig.returnType = some .long := hS.2.2.2.1.trans hr
  obtain ⟨fs, hret, hrun, hended, hW, hframe⟩ := X.leave (v := some (.long x)) (fun h => by rw [hr'] at h; cases h) hlocks
  have hmeth' : T.vm.method? m = some meth := X.method'
  refine ⟨T.setFrames fs, ?_, .returned (some (.long x)), locs, hrun, hended, rfl, ?_, hW, ?_, hlo⟩
  · show Steps p.tables e below (T.setTop (F0 m pc ls [.long x])) _
    jvm_step X.here [X.here.top, hexec, hb, hdg, hmeth', hr', narrow]
    (try refine ⟨rfl, ?_⟩); (try refine ⟨rfl, ?_⟩)
    first | (intro acts; rw [hret _ acts rfl rfl rfl]) | rw [hret _ _ rfl rfl rfl]
    exact Steps.refl _
  · show xw_R κ G w s T.heap
    rw [hT]; exact hR
  · show s.sameButNew _ locs (cells + (w.1 - w.1)) (slots + (w.2.1 - w.2.1))
    rw [Nat.sub_self, Nat.sub_self, Nat.add_zero, Nat.add_zero]
    exact hframe
theorem xw_aret {i : Nat} {C : String} (h : xw_dec M.2.1 pc .areturn 1 pc') (hr : M.2.2.2.1 = some (.object C)) : xw_w κ l M pc L [.ref i] w (.inl (some (.ref i)), w) := by
  refine ⟨⟨Nat.le_refl _, Nat.le_refl _⟩, fun G p e R s m args below meth c H locs cells slots ls hS hR hL hlo hc hs => ?_⟩
  intro T hT X
  have hexec := hS.1
  have hb := hS.2.1
  have hdg := h.1
  have hlocks : meth.locks = false := hS.2.2.2.2.1
  have hr' : meth.sig.returnType = some (.object C) := hS.2.2.2.1.trans hr
  obtain ⟨fs, hret, hrun, hended, hW, hframe⟩ := X.leave (v := some (.ref (xw_ad G i))) (fun h => by rw [hr'] at h; cases h) hlocks
  have hmeth' : T.vm.method? m = some meth := X.method'
  refine ⟨T.setFrames fs, ?_, .returned (some (.ref (xw_ad G i))), locs, hrun, hended, rfl, ?_, hW, ?_, hlo⟩
  · show Steps p.tables e below (T.setTop (F0 m pc ls [.ref (xw_ad G i)])) _
    jvm_step X.here [X.here.top, hexec, hb, hdg, hmeth', hr']
    (try refine ⟨rfl, ?_⟩); (try refine ⟨rfl, ?_⟩)
    first | (intro acts; rw [hret _ acts rfl rfl rfl]) | rw [hret _ _ rfl rfl rfl]
    exact Steps.refl _
  · show xw_R κ G w s T.heap
    rw [hT]; exact hR
  · show s.sameButNew _ locs (cells + (w.1 - w.1)) (slots + (w.2.1 - w.2.1))
    rw [Nat.sub_self, Nat.sub_self, Nat.add_zero, Nat.add_zero]
    exact hframe
theorem xw_vret (h : xw_dec M.2.1 pc .return_ 1 pc') (hr : M.2.2.2.1 = none) : xw_w κ l M pc L [] w (.inl none, w) := by
  refine ⟨⟨Nat.le_refl _, Nat.le_refl _⟩, fun G p e R s m args below meth c H locs cells slots ls hS hR hL hlo hc hs => ?_⟩
  intro T hT X
  have hexec := hS.1
  have hb := hS.2.1
  have hdg := h.1
  have hlocks : meth.locks = false := hS.2.2.2.2.1
  have hr' : meth.sig.returnType = none := hS.2.2.2.1.trans hr
  obtain ⟨fs, hret, hrun, hended, hW, hframe⟩ := X.leave (v := none) (fun _ => rfl) hlocks
  have hmeth' : T.vm.method? m = some meth := X.method'
  refine ⟨T.setFrames fs, ?_, .returned none, locs, hrun, hended, rfl, ?_, hW, ?_, hlo⟩
  · show Steps p.tables e below (T.setTop (F0 m pc ls [])) _
    jvm_step X.here [X.here.top, hexec, hb, hdg, hmeth', hr']
    (try refine ⟨rfl, ?_⟩); (try refine ⟨rfl, ?_⟩)
    first | (intro acts; rw [hret _ acts rfl rfl rfl]) | rw [hret _ _ rfl rfl rfl]
    exact Steps.refl _
  · show xw_R κ G w s T.heap
    rw [hT]; exact hR
  · show s.sameButNew _ locs (cells + (w.1 - w.1)) (slots + (w.2.1 - w.2.1))
    rw [Nat.sub_self, Nat.sub_self, Nat.add_zero, Nat.add_zero]
    exact hframe
end XR
set_option maxHeartbeats 1000000 in
/-- a call by its contract: it comes back, or the note of the exception lies over the caller's frame -/
theorem xw_back {κ : Nat → Nat × Nat} {l : Launch} {M' : xw_M} {As : List Value} {w : xw_W} {E1 : xw_O × xw_W} {G : xw_G} {p : Program} {e : Env} {R : Room} {s : State} {m : MethodId} {args : Array Value} {below : List Frame} {meth : Method} {c : Code} {U : State} {locs : List Loc} {cells slots : Nat}
    (hM : xm_m κ l M' As w E1) (hok : xw_ok M') (X : Stand p l e R s m args below meth c U locs cells slots) (hts : ∀ w ∈ xw_T, w.before args s = true)
    {g : JFrame} (hg : g.method = m) (hsize : g.locals.size = c.maxLocals) {ig : Instr} {len : Nat} (hdg : decode c.code g.pc = .ok (ig, len))
    (hfr : M'.2.2.2.2.2.1 + 1 ≤ R.frames) (hlo : 2 * g.monitorRoom + (g.stack.map fun v => v.category).sum + (M'.2.2.1 + 11) + M'.2.2.2.2.2.2 ≤ R.locals)
    (hc : cells + (E1.2.1 - w.1) ≤ R.cells) (hs : slots + (E1.2.2.1 - w.2.1) ≤ R.slots) {mk : MethodId} (hn : U.methodNamed? M'.1 = some mk) (hR : xw_R κ G w s U.heap) :
    ∃ (L : List Loc) (T' : State), Stand p l e R s m args below meth c T' (locs ++ L) (cells + (E1.2.1 - w.1)) (slots + (E1.2.2.1 - w.2.1)) ∧ xw_lc G L ∧ xw_R κ G E1.2 s T'.heap ∧
      (∀ v, E1.1 = .inl v → Steps p.tables e below (doInvoke e (U.setTop g) [] mk ((As.map (xw_tv G)).toArray)).1 (T'.setTop { g with pc := g.pc + len, stack := (v.map (xw_tv G)).toList ++ g.stack })) ∧
      (∀ i, E1.1 = .inr i → Steps p.tables e below (doInvoke e (U.setTop g) [] mk ((As.map (xw_tv G)).toArray)).1 ((T'.setTop g).pushFrame (.throwing (xw_ad G i)))) := by
  generalize ha : (As.map (xw_tv G)).toArray = a
  have htU : ∀ w ∈ xw_T, w.before a U = true := xw_Tmove X.warmed hts
  obtain ⟨methY, cY, hmY, hcY, -, hlY, -⟩ := xw_cw_spec hn (htU _ hok.1)
  obtain ⟨kY, hkY, -⟩ := className_of_methodNamed hn
  have hinitY : kY.init = .initialized := Cond.initialized_spec (findClass_of_methodNamed hn) hkY (htU _ hok.2.1)
  have h : At U g.method c below := by rw [hg]; exact X.here
  have happ : (headSpec xw_T { frames := M'.2.2.2.2.2.1, cells := E1.2.1 - w.1, slots := E1.2.2.1 - w.2.1, locals := M'.2.2.2.2.2.2 }).appliesLoose M'.1 e.platform (U.calling g mk a) = true :=
    Spec.appliesLoose_calling (g := g) h hdg hn hkY hinitY
      (X.room_calling (g := g) (R' := { frames := M'.2.2.2.2.2.1, cells := E1.2.1 - w.1, slots := E1.2.2.1 - w.2.1, locals := M'.2.2.2.2.2.2 }) hsize hmY hcY hfr (by rw [hlY]; exact hlo) hc hs) (atoms_intro htU)
  obtain ⟨mid, hmid⟩ := h.above
  have hfrs : (U.setTop g).frames = (.java g :: mid) ++ below := by rw [State.frames_setTop' g h.top, hmid]; rfl
  have hRU : xw_R κ G w U U.heap := hR.moved X.warmed.alike
  have hRc : xw_R κ G w (U.calling g mk a) (U.calling g mk a).heap := xw_R.moved (u := U) (U := U.calling g mk a) (Vm.Alike.refl U.vm) hRU
  obtain ⟨o, s₂, hsteps, -, hend, hq⟩ := Steps.callFree (hM.2 G) p X.admits X.cas X.clock (acts := []) hfrs happ ⟨ha.symm, hRc⟩ trivial
  rw [State.frames_setTop' g h.top] at hend
  obtain ⟨ho, hR2, hW₂, L, ⟨e2, q2, q3, q4, q5, q6⟩, hL⟩ := hq
  have hR2 : xw_R κ G E1.2 (U.calling g mk a) s₂.heap := hR2
  have e2 : ({ s₂ with vm := (U.calling g mk a).vm } : State) = { (U.calling g mk a).setFrames s₂.frames with heap := s₂.heap, slotsUsed := s₂.slotsUsed } := e2
  have e3 : s₂ = ({ (U.calling g mk a).setFrames s₂.frames with heap := s₂.heap, slotsUsed := s₂.slotsUsed } : State).setVm s₂.vm := by
    have : s₂ = ({ s₂ with vm := (U.calling g mk a).vm } : State).setVm s₂.vm := rfl
    rw [e2] at this
    exact this
  have hW' : U.WarmedH s₂.vm := hW₂
  obtain ⟨g₀, hg0⟩ := Option.isSome_iff_exists.mp h.top
  obtain ⟨r, hr⟩ := State.topJava?_eq_some.mp hg0
  have hsame : U.sameButNew ({ U with heap := s₂.heap, slotsUsed := s₂.slotsUsed } : State) L (E1.2.1 - w.1) (E1.2.2.1 - w.2.1) := by
    refine ⟨?_, q2, q3, q4, q5, q6⟩
    obtain ⟨t, ht, -⟩ := State.frames_cons hr
    show ({ U with heap := s₂.heap, slotsUsed := s₂.slotsUsed } : State) = { U.setFrames U.frames with heap := s₂.heap, slotsUsed := s₂.slotsUsed }
    rw [State.setFrames_self ht]
  have hr' : (({ U with heap := s₂.heap, slotsUsed := s₂.slotsUsed } : State).setVm s₂.vm).frames = .java g₀ :: r := hr
  refine ⟨L, ({ U with heap := s₂.heap, slotsUsed := s₂.slotsUsed } : State).setVm s₂.vm,
    ⟨X.admits, X.cas, X.clock, X.frames, X.room, X.hears, X.method, X.code, (X.here.setHeapUsed s₂.heap s₂.slotsUsed).setVm hW'.alike, X.tail, State.WarmedH.trans X.warmed hW', X.limits, X.bytes, X.same.trans (hsame.setVm s.vm)⟩,
    hL, xw_R.moved (u := U.calling g mk a) (U := s) X.warmed.alike.symm hR2, fun v hv => ?_, fun i hi => ?_⟩
  · rw [hv] at ho
    subst ho
    obtain ⟨c₂, i₂, len₂, hc₂, hd₂, hf₂⟩ := hend
    have hcc : c₂ = c := by
      have h1 : s₂.code? g.method = U.code? g.method := by
        rw [State.code?_eq, State.code?_eq, hW'.alike.method?]
      exact Option.some.inj (hc₂.symm.trans (h1.trans h.code))
    subst hcc
    have hlen : len₂ = len := by rw [hdg] at hd₂; cases hd₂; rfl
    subst hlen
    have hs₂ : s₂ = (({ U with heap := s₂.heap, slotsUsed := s₂.slotsUsed } : State).setVm s₂.vm).setTop { g with pc := g.pc + len₂, stack := (v.map (xw_tv G)).toList ++ g.stack } := by
      refine e3.trans ?_
      rw [hf₂, State.calling_eq h.top, State.setFrames_setFrames, State.setTop_of_frames _ hr', hr]
      rfl
    rw [← hs₂]
    exact hsteps
  · rw [hi] at ho
    subst ho
    have hend : s₂.frames = .throwing (xw_ad G i) :: .java g :: U.frames.tail := hend
    have hpush : ((({ U with heap := s₂.heap, slotsUsed := s₂.slotsUsed } : State).setVm s₂.vm).setTop g).pushFrame (.throwing (xw_ad G i)) = (({ U with heap := s₂.heap, slotsUsed := s₂.slotsUsed } : State).setVm s₂.vm).setFrames (.throwing (xw_ad G i) :: .java g :: r) := by
      rw [State.pushFrame, State.frames_setTop _ hr', State.setTop_of_frames _ hr', State.setFrames_setFrames]
    have hs₂ : s₂ = (({ U with heap := s₂.heap, slotsUsed := s₂.slotsUsed } : State).setVm s₂.vm).setFrames (.throwing (xw_ad G i) :: .java g :: r) := by
      refine e3.trans ?_
      rw [hend, State.calling_eq h.top, State.setFrames_setFrames, hr]
      rfl
    rw [hpush, ← hs₂]
    exact hsteps
end
section
/-! Calls: the linking, the two ends; a handler of the method's own. -/
/-- the linking of a call: it goes to M' with As -/
def xw_lk (κ : Nat → Nat × Nat) (l : Launch) (M M' : xw_M) (pc : Nat) (w : xw_W) (S rest As : List Value) : Prop :=
  ∀ (G : xw_G) (p : Program) (e : Env) (R : Room) (s : State) (m : MethodId) (args : Array Value) (below : List Frame) (meth : Method) (c : Code) (T : State) (locs : List Loc) (cells slots : Nat) (ls : Array Slot),
    xw_S κ G l M p R s m args meth c → xw_R κ G w s T.heap → Stand p l e R s m args below meth c T locs cells slots →
    ∃ (vm₁ : Vm) (mk : MethodId), Stand p l e R s m args below meth c (T.setVm vm₁) locs cells slots ∧ (T.setVm vm₁).methodNamed? M'.1 = some mk ∧
      ∀ target, (∀ acts, Steps p.tables e below (doInvoke e ((T.setVm vm₁).setTop (F0 m pc ls (rest.map (xw_tv G)))) acts mk ((As.map (xw_tv G)).toArray)).1 target) → Steps p.tables e below (T.setTop (F0 m pc ls (S.map (xw_tv G)))) target
/-- an exception, cell i, is under way at pc -/
def xw_t (κ : Nat → Nat × Nat) (l : Launch) (M : xw_M) (pc : Nat) (L : List (Option Value)) (rest : List Value) (i : Nat) (w : xw_W) (E : xw_O × xw_W) : Prop :=
  (w.1 ≤ E.2.1 ∧ w.2.1 ≤ E.2.2.1) ∧
  ∀ (G : xw_G) (p : Program) (e : Env) (R : Room) (s : State) (m : MethodId) (args : Array Value) (below : List Frame) (meth : Method) (c : Code) (T : State) (locs : List Loc) (cells slots : Nat) (ls : Array Slot),
    xw_S κ G l M p R s m args meth c → xw_R κ G w s T.heap → xw_L M.2.2.1 G L ls → xw_lc G locs → cells + (E.2.1 - w.1) ≤ R.cells → slots + (E.2.2.1 - w.2.1) ≤ R.slots → Stand p l e R s m args below meth c T locs cells slots →
    ∃ t, Steps p.tables e below ((T.setTop (F0 m pc ls (rest.map (xw_tv G)))).pushFrame (.throwing (xw_ad G i))) t ∧ xw_Q κ G below s E (cells + (E.2.1 - w.1)) (slots + (E.2.2.1 - w.2.1)) t
section XC
variable {κ : Nat → Nat × Nat} {l : Launch} {M M' : xw_M} {pc pc' : Nat} {L : List (Option Value)} {S rest As : List Value} {w : xw_W} {E E1 : xw_O × xw_W}
set_option maxHeartbeats 1000000 in
theorem xw_core {ig : Instr} {len : Nat} (hdec : decode M.2.1 pc = .ok (ig, len)) (hlk : xw_lk κ l M M' pc w S rest As) (hok : xw_ok M') (hM : xm_m κ l M' As w E1)
    (hroom : M'.2.2.2.2.2.1 + 1 ≤ M.2.2.2.2.2.1 ∧ (rest.map fun v => v.category).sum + (M'.2.2.1 + 11) + M'.2.2.2.2.2.2 ≤ M.2.2.2.2.2.2)
    (k1 : ∀ v, E1.1 = .inl v → xw_w κ l M (pc + len) L (v.toList ++ rest) E1.2 E) (k2 : ∀ i, E1.1 = .inr i → xw_t κ l M pc L rest i E1.2 E) : xw_w κ l M pc L S w E := by
  have hm : E1.2.1 ≤ E.2.1 ∧ E1.2.2.1 ≤ E.2.2.1 := by
    cases hE : E1.1 with
    | inl v => exact (k1 v hE).1
    | inr i => exact (k2 i hE).1
  have hm1 := hM.1
  refine ⟨⟨Nat.le_trans hm1.1 hm.1, Nat.le_trans hm1.2 hm.2⟩, fun G p e R s m args below meth c H locs cells slots ls hS hR hL hlo hc hs => ?_⟩
  intro T hT X
  subst hT
  obtain ⟨hexec, hb, hmx, hrt, hlk0, hown, hnm, hts, htr, htab, ⟨hRf, hRl⟩, hw0⟩ := id hS
  obtain ⟨vm₁, mk, X₁, hn, hst⟩ := hlk G p e R s m args below meth c T locs cells slots ls hS hR X
  obtain ⟨L1, T', X', hL1, hR', h1, h2⟩ := xw_back (G := G) (g := F0 m pc ls (rest.map (xw_tv G))) hM hok X₁ hts rfl (hL.1.trans hmx.symm) (ig := ig) (len := len) (by rw [hb]; exact hdec) (by rw [hRf]; exact hroom.1)
    (by
      show 2 * 0 + ((rest.map (xw_tv G)).map fun v => v.category).sum + (M'.2.2.1 + 11) + M'.2.2.2.2.2.2 ≤ R.locals
      rw [xw_tv_sum, hRl]
      have := hroom.2
      omega) (by omega) (by omega) hn hR
  have e1 : cells + (E1.2.1 - w.1) + (E.2.1 - E1.2.1) = cells + (E.2.1 - w.1) := by omega
  have e2 : slots + (E1.2.2.1 - w.2.1) + (E.2.2.1 - E1.2.2.1) = slots + (E.2.2.1 - w.2.1) := by omega
  have hlo' : xw_lc G (locs ++ L1) := fun q hq => by
    rcases List.mem_append.mp hq with h | h
    · exact hlo q h
    · exact hL1 q h
  cases hE : E1.1 with
  | inl v =>
    obtain ⟨t, a1, b1⟩ := (k1 v hE).2 G p e R s m args below meth c T'.heap (locs ++ L1) (cells + (E1.2.1 - w.1)) (slots + (E1.2.2.1 - w.2.1)) ls hS hR' hL hlo' (by rw [e1]; exact hc) (by rw [e2]; exact hs) T' rfl X'
    rw [e1, e2] at b1
    refine ⟨t, hst t (fun acts => ?_), b1⟩
    rw [doInvoke_state]
    refine (h1 v hE).trans ?_
    have e3 : (v.toList ++ rest).map (xw_tv G) = (v.map (xw_tv G)).toList ++ rest.map (xw_tv G) := by cases v <;> rfl
    rw [e3] at a1
    exact a1
  | inr i =>
    obtain ⟨t, a1, b1⟩ := (k2 i hE).2 G p e R s m args below meth c T' (locs ++ L1) (cells + (E1.2.1 - w.1)) (slots + (E1.2.2.1 - w.2.1)) ls hS hR' hL hlo' (by rw [e1]; exact hc) (by rw [e2]; exact hs) X'
    rw [e1, e2] at b1
    refine ⟨t, hst t (fun acts => ?_), b1⟩
    rw [doInvoke_state]
    exact (h2 i hE).trans a1
/-- no handler covers pc: it leaves -/
theorem xw_tl {i : Nat} (hout : M.2.2.2.2.1.all (fun x => !(decide (x.1 ≤ pc) && decide (pc < x.2.1))) = true) : xw_t κ l M pc L rest i w (.inr i, w) := by
  refine ⟨⟨Nat.le_refl _, Nat.le_refl _⟩, fun G p e R s m args below meth c T locs cells slots ls hS hR hL hlo hc hs X => ?_⟩
  obtain ⟨hexec, hb, hmx, hrt, hlk0, hown, hnm, hts, htr, htab, hRr, hw0⟩ := id hS
  have hout' : ∀ x ∈ c.exceptionTable.toList, covers x pc = false := by
    intro x hx
    have h1 : (x.startPc, x.endPc, x.handlerPc, x.catchType) ∈ M.2.2.2.2.1 := by
      rw [← htab]
      exact List.mem_map.mpr ⟨x, hx, rfl⟩
    have h2 := List.all_eq_true.mp hout _ h1
    cases h3 : covers x pc with
    | false => rfl
    | true =>
      simp only [covers] at h3
      rw [h3] at h2
      cases h2
  obtain ⟨a1, a2, a3, a4, a5⟩ := X.leaveThrown (xw_ad G i) (g := F0 m pc ls (rest.map (xw_tv G))) rfl rfl rfl hout' hlk0
  refine ⟨_, a1, .threw (xw_ad G i), locs, a2, a3, rfl, hR, a4, ?_, hlo⟩
  show s.sameButNew _ locs (cells + (w.1 - w.1)) (slots + (w.2.1 - w.2.1))
  rw [Nat.sub_self, Nat.sub_self, Nat.add_zero, Nat.add_zero]
  exact a5
end XC
section XH
variable {e : Env} {u : State} {f : JFrame} {a : Addr} {x : ExceptionTableEntry} {cT : ClassId} {cell : Cell}
/-- the search through a table of one entry, whose class's entry in the pool is open or resolved -/
theorem xc_go (hx : covers x f.pc = true) (h0 : x.catchType ≠ 0) (hl : u.vm.ClassLinks e.platform f.method.cls x.catchType cT) (hcell : u.heap[a]? = some cell) (hobj : ∀ k, cell.vm ≠ .statics k)
    (hk : ∃ k, u.vm.classes[cell.cls]? = some k) (hc : ∃ k, u.vm.classes[cT]? = some k) (hfit : u.vm.assignable cell.cls cT = true) (Q : Handler → Pre) (E : CtlPost) (d : Bool) (acts : List Action) :
    wp (findHandler.go f a [x]) Q E e d acts u ↔ Q (.found x.handlerPc) d acts (u.setVm (u.vm.noted f.method.cls x.catchType (.cls cT))) := by
  have hal : u.vm.Alike (u.vm.noted f.method.cls x.catchType (.cls cT)) := (Vm.Alike.refl u.vm).noted _ _ _
  obtain ⟨r1, r2⟩ := (resolveClass_links e.toSetting hl).op (op := VmOp.resolveClass f.method.cls x.catchType) rfl
  obtain ⟨c1, hc1⟩ := hk
  obtain ⟨c2, hc2⟩ := hc
  obtain ⟨d1, hd1, -⟩ := hal.2.2 _ _ hc1
  obtain ⟨d2, hd2, -⟩ := hal.2.2 _ _ hc2
  have hfit2 : (u.vm.noted f.method.cls x.catchType (.cls cT)).assignable cell.cls cT = true := by rw [hal.assignable]; exact hfit
  have hx2 : (decide (x.startPc ≤ f.pc) && decide (f.pc < x.endPc)) = true := hx
  simp [findHandler.go, hx2, h0, r1, r2, hcell, hobj, hd1, hd2, hfit2, VmOp.dirties, VmOp.acts]
theorem xc_step {r : List Frame} {meth : Method} {code : Code} (hm : u.vm.method? f.method = some meth) (hcd : meth.code = some code) (hone : code.exceptionTable.toList = [x]) (hx : covers x f.pc = true) (h0 : x.catchType ≠ 0) (hl : u.vm.ClassLinks e.platform f.method.cls x.catchType cT) (hcell : u.heap[a]? = some cell) (hobj : ∀ k, cell.vm ≠ .statics k)
    (hk : ∃ k, u.vm.classes[cell.cls]? = some k) (hc : ∃ k, u.vm.classes[cT]? = some k) (hfit : u.vm.assignable cell.cls cT = true) :
    (stepThrowing e u a (.java f :: r)).1 = (u.setVm (u.vm.noted f.method.cls x.catchType (.cls cT))).setFrames (.java { f with pc := x.handlerPc, stack := [.ref a] } :: r) := by
  have hfind : ∀ (Q : Handler → Pre) (E : CtlPost) (d : Bool) (acts : List Action), wp (findHandler f a) Q E e d acts u ↔ Q (.found x.handlerPc) d acts (u.setVm (u.vm.noted f.method.cls x.catchType (.cls cT))) := by
    intro Q E d acts
    rw [Jvm.W.findHandler_eq hm hcd, hone]
    exact xc_go hx h0 hl hcell hobj hk hc hfit Q E d acts
  simp only [stepThrowing, searchFrame, vmDo]
  generalize hr : Sem.go _ e false [] u = res
  obtain ⟨as, rfl, ha⟩ := Sem.eq_ok_of hr (a := Handler.found x.handlerPc) (s' := u.setVm (u.vm.noted f.method.cls x.catchType (.cls cT))) (acts' := []) (by simp [hfind _ _ _ _])
  rfl
end XH
section XD
variable {κ : Nat → Nat × Nat} {l : Launch} {M : xw_M} {pc : Nat} {L : List (Option Value)} {rest : List Value} {w : xw_W} {E : xw_O × xw_W}
set_option maxHeartbeats 1000000 in
/-- the method's one handler covers pc: it goes on there -/
theorem xw_tc {i p0 p1 hp ct : Nat} (hh : M.2.2.2.2.1 = [(p0, p1, hp, ct)]) (hcov : p0 ≤ pc ∧ pc < p1) (hct : ct ≠ 0) (hlink : Cond.classLink M.1.cls ct "java/lang/IllegalStateException" ∈ xw_T) (hcast : Cond.castable "java/lang/IllegalStateException" "java/lang/IllegalStateException" ∈ xw_T)
    (hi : i < w.1) (hκ : 4 ≤ (κ i).1) (k : xw_w κ l M hp L [.ref i] w E) : xw_t κ l M pc L rest i w E := by
  refine ⟨k.1, fun G p e R s m args below meth c T locs cells slots ls hS hR hL hlo hc hs X => ?_⟩
  obtain ⟨hexec, hb, hmx, hrt, hlk0, hown, hnm, hts, htr, htab, hRr, hw0⟩ := id hS
  obtain ⟨cell, hcell, hcls, hvm⟩ := (hR.1 i hi).2.2.2.2 hκ
  have hpl : e.platform.magicAccessors = ({} : Platform).magicAccessors := by rw [X.admits.platform]
  obtain ⟨x, hx1, hx2⟩ : ∃ x : ExceptionTableEntry, c.exceptionTable.toList = [x] ∧ (x.startPc, x.endPc, x.handlerPc, x.catchType) = (p0, p1, hp, ct) := by
    rw [hh] at htab
    cases hx : c.exceptionTable.toList with
    | nil => rw [hx] at htab; cases htab
    | cons y t =>
      rw [hx] at htab
      cases t with
      | nil => exact ⟨y, rfl, by simpa using htab⟩
      | cons z t => simp at htab
  obtain ⟨y1, y2, y3, y4⟩ : x.startPc = p0 ∧ x.endPc = p1 ∧ x.handlerPc = hp ∧ x.catchType = ct := by simpa using hx2
  obtain ⟨cT, hcT, hcl⟩ := Cond.classLink_spec hown (hts _ hlink) e.platform hpl
  rw [← y4] at hcl hct
  obtain ⟨dk, _, _, kt, hd, _, _, _, _, hkt, _, hopen⟩ := hcl.here
  have hW' : s.WarmedH (T.vm.noted m.cls x.catchType (.cls cT)) := X.warmed.noted hd hopen (State.rightAt_cls hcl)
  obtain ⟨kt', hkt', -⟩ := X.warmed.alike.2.2 _ _ hkt
  have hcE : G.2.1.2.2 = cT := Option.some.inj (hR.2.2.2.2.2.symm.trans hcT)
  obtain ⟨c3, c4, hc3, hc4, hasg⟩ := Cond.castable_spec (hts _ hcast)
  cases Option.some.inj (hc3.symm.trans hcT)
  cases Option.some.inj (hc4.symm.trans hcT)
  have hfit : T.vm.assignable cell.cls cT = true := by rw [X.warmed.alike.assignable, hcls, hcE]; exact hasg
  have X' := X.noted hW'
  obtain ⟨t, a1, b1⟩ := k.2 G p e R s m args below meth c T.heap locs cells slots ls hS hR hL hlo hc hs (T.setVm (T.vm.noted m.cls x.catchType (.cls cT))) rfl X'
  refine ⟨t, ?_, b1⟩
  obtain ⟨g₀, hg0⟩ := Option.isSome_iff_exists.mp X.here.top
  obtain ⟨r, hr⟩ := State.topJava?_eq_some.mp hg0
  have hAt : At T (F0 m pc ls (rest.map (xw_tv G))).method c below := X.here
  obtain ⟨hgo, hwi⟩ := hAt.throwing (xw_ad G i)
  refine Steps.head hgo hwi ?_
  have hpush : (T.setTop (F0 m pc ls (rest.map (xw_tv G)))).pushFrame (.throwing (xw_ad G i)) = T.setFrames (.throwing (xw_ad G i) :: .java (F0 m pc ls (rest.map (xw_tv G))) :: r) := by
    rw [State.pushFrame, State.frames_setTop _ hr, State.setTop_of_frames _ hr, State.setFrames_setFrames]
  have hcurT : T.cur < T.threads.size := State.cur_lt_of_frames hr
  rw [hpush, stepThread_throwing (State.frames_setFrames _ hcurT),
    xc_step (u := T.setFrames (.throwing (xw_ad G i) :: .java (F0 m pc ls (rest.map (xw_tv G))) :: r)) (f := F0 m pc ls (rest.map (xw_tv G))) (a := xw_ad G i) (x := x) (cT := cT) (cell := cell) (r := r) (meth := meth) (code := c) X.method' X.code hx1
      (by simp only [covers, y1, y2]; simp [hcov]) hct (X.warmed.classLinks hcl) hcell (VmData.ne_statics_of (by rw [hvm]; rfl)) (Vm.classAt_of_assignable hfit ⟨kt', hkt'⟩) ⟨kt', hkt'⟩ hfit]
  have hr2 : (T.setVm (T.vm.noted m.cls x.catchType (.cls cT))).frames = .java g₀ :: r := hr
  rw [State.setTop_of_frames _ hr2] at a1
  have e1 : ((T.setFrames (.throwing (xw_ad G i) :: .java (F0 m pc ls (rest.map (xw_tv G))) :: r)).setVm (T.vm.noted m.cls x.catchType (.cls cT))).setFrames (.java { (F0 m pc ls (rest.map (xw_tv G))) with pc := x.handlerPc, stack := [.ref (xw_ad G i)] } :: r) = (T.setVm (T.vm.noted m.cls x.catchType (.cls cT))).setFrames (.java (F0 m hp ls [.ref (xw_ad G i)]) :: r) := by
    have e0 : (T.setFrames (.throwing (xw_ad G i) :: .java (F0 m pc ls (rest.map (xw_tv G))) :: r)).setVm (T.vm.noted m.cls x.catchType (.cls cT)) = (T.setVm (T.vm.noted m.cls x.catchType (.cls cT))).setFrames (.throwing (xw_ad G i) :: .java (F0 m pc ls (rest.map (xw_tv G))) :: r) := rfl
    rw [e0, State.setFrames_setFrames, y3]
  show Steps p.tables e below (((T.setFrames (.throwing (xw_ad G i) :: .java (F0 m pc ls (rest.map (xw_tv G))) :: r)).setVm (T.vm.noted m.cls x.catchType (.cls cT))).setFrames (.java { (F0 m pc ls (rest.map (xw_tv G))) with pc := x.handlerPc, stack := [.ref (xw_ad G i)] } :: r)) t
  rw [e1]
  exact a1
end XD
section XK
variable {κ : Nat → Nat × Nat} {l : Launch} {M M' : xw_M} {pc : Nat} {rest As : List Value} {w : xw_W}
theorem xw_lkV {idx b : Nat} {q : vw_C} (h : decode M.2.1 pc = .ok (.invokevirtual idx, 3)) (hl : Cond.methodLink M.1.cls idx M'.1 ∈ xw_T) (hin : Cond.instanceMethod M'.1 ∈ xw_T) (hse : Cond.selects M'.1.cls M'.1 M'.1 ∈ xw_T) (hok : xw_ok M')
    (hn : (parseMethodDescriptor M'.1.desc).map (fun d => d.parameters.length) = some As.length) (hb : b < w.1) (hκ : (κ b).1 = 0) (hq : vwCl[(κ b).2]? = some q) (hqn : q.1 = M'.1.cls) :
    xw_lk κ l M M' pc w (As.reverse ++ .ref b :: rest) rest (.ref b :: As) := by
  intro G p e R s m args below meth c T locs cells slots ls hS hR X
  obtain ⟨hexec, hbc, hmx, hrt, hlk0, hown, hnm, hts, htr, htab, hRr, hw0⟩ := id hS
  obtain ⟨mk, methM, hnamed, hmethM, hstM, habM⟩ := Cond.instanceMethod_spec (hts _ hin)
  obtain ⟨methM', cM, hmethM', -, -, -, -, -, -, hsigM⟩ := xw_cw_spec hnamed (hts _ hok.1)
  cases hmethM.symm.trans hmethM'
  obtain ⟨q', hq', cell, g1, g2, g3, -⟩ := (hR.1 b hb).1 hκ
  cases hq.symm.trans hq'
  have hcls : s.vm.findClass M'.1.cls = some cell.cls := by rw [g2, ← hqn]; exact (hR.2.2.2.2.1.1 _ q hq).2.1
  obtain ⟨c2, r2, m2, q1, q2, q3, q4, kP, hkP, hkPi⟩ := Cond.selects_spec (hts _ hse)
  cases hcls.symm.trans q1
  cases (State.methodFound?_of_named hnamed hok.2.2.2).symm.trans q2
  cases hnamed.symm.trans q3
  have hselP : selectMethod e.platform s.vm cell.cls mk = .method mk := by rw [Launch.admits_selectMethod X.admits]; exact q4
  obtain ⟨vm₁, X₁, hstep₁⟩ := X.invokevirtual hexec hown (hts _ hl) hnamed hmethM hstM hkP hkPi hok.2.2.2 (a := xw_ad G b) (cell := cell) g1 (fun z h => by rw [g3] at h; cases h) hselP hmethM habM hkP hkPi
    (g := F0 m pc ls ((As.reverse ++ .ref b :: rest).map (xw_tv G))) rfl (argsL := As.map (xw_tv G)) (rest := rest.map (xw_tv G))
    (by rw [List.length_map]; rw [hsigM] at hn; exact (Option.some.inj hn).symm) (by show (As.reverse ++ .ref b :: rest).map (xw_tv G) = _; rw [List.map_append, List.map_reverse]; rfl) (by rw [hbc]; exact h)
  exact ⟨vm₁, mk, X₁, X₁.named hnamed, hstep₁⟩
theorem xw_lkS {idx : Nat} (h : decode M.2.1 pc = .ok (.invokestatic idx, 3)) (hl : Cond.methodLink M.1.cls idx M'.1 ∈ xw_T) (hst : Cond.static M'.1 ∈ xw_T) (hok : xw_ok M')
    (hn : (parseMethodDescriptor M'.1.desc).map (fun d => d.parameters.length) = some As.length) : xw_lk κ l M M' pc w (As.reverse ++ rest) rest As := by
  intro G p e R s m args below meth c T locs cells slots ls hS hR X
  obtain ⟨hexec, hbc, hmx, hrt, hlk0, hown, hnm, hts, htr, htab, hRr, hw0⟩ := id hS
  obtain ⟨mk, hnamed⟩ : ∃ mk, s.methodNamed? M'.1 = some mk := by
    have h1 := hts _ hst
    cases hm : s.methodNamed? M'.1 with
    | some mk => exact ⟨mk, rfl⟩
    | none => simp [Cond.before, Cond.holds, Cond.value, hm] at h1
  obtain ⟨methM, cM, hmethM, -, -, -, -, -, -, hsigM⟩ := xw_cw_spec hnamed (hts _ hok.1)
  have hstatic : methM.isStatic = true := Cond.static_spec hnamed hmethM (hts _ hst)
  obtain ⟨kP, hkP, -⟩ := className_of_methodNamed hnamed
  have hinitP : kP.init = .initialized := Cond.initialized_spec (findClass_of_methodNamed hnamed) hkP (hts _ hok.2.1)
  obtain ⟨vm₁, X₁, hstep₁⟩ := X.invokestatic hexec hown (hts _ hl) hnamed hmethM hstatic hkP hinitP hok.2.2.2 (g := F0 m pc ls ((As.reverse ++ rest).map (xw_tv G))) rfl (argsL := As.map (xw_tv G)) (rest := rest.map (xw_tv G))
    (by rw [List.length_map]; rw [hsigM] at hn; exact (Option.some.inj hn).symm) (by show (As.reverse ++ rest).map (xw_tv G) = _; rw [List.map_append, List.map_reverse]) (by rw [hbc]; exact h)
  exact ⟨vm₁, mk, X₁, X₁.named hnamed, hstep₁⟩
theorem xw_lkI {idx b : Nat} (h : decode M.2.1 pc = .ok (.invokespecial idx, 3)) (hy : M'.1.name = "<init>") (hl : Cond.methodLink M.1.cls idx M'.1 ∈ xw_T) (hin : Cond.instanceMethod M'.1 ∈ xw_T) (hok : xw_ok M') (hcd : Cond.code M'.1 M'.2.1 M'.2.2.1 none ∈ xw_T)
    (hn : (parseMethodDescriptor M'.1.desc).map (fun d => d.parameters.length) = some As.length) : xw_lk κ l M M' pc w (As.reverse ++ .ref b :: rest) rest (.ref b :: As) := by
  intro G p e R s m args below meth c T locs cells slots ls hS hR X
  obtain ⟨hexec, hbc, hmx, hrt, hlk0, hown, hnm, hts, htr, htab, hRr, hw0⟩ := id hS
  have hpl : e.platform.magicAccessors = ({} : Platform).magicAccessors := by rw [X.admits.platform]
  obtain ⟨mk, methM, cM, kP, vm₁, hnamed, hmethM, hcodeM, -, hlocalsM, -, hkP, -, hW₁, hstep₁⟩ := Steps.initColdArgs (e := e) X.here hexec X.warmed hpl hown hy hok.2.2.2 (hts _ hl) (hts _ hin) (hts _ hcd) (f := F0 m pc ls ((As.reverse ++ .ref b :: rest).map (xw_tv G))) rfl (a := xw_ad G b) (argsL := As.map (xw_tv G)) (rest := rest.map (xw_tv G))
    (fun sig hs => by rw [List.length_map]; rw [hs] at hn; exact (Option.some.inj hn).symm) (by show (As.reverse ++ .ref b :: rest).map (xw_tv G) = _; rw [List.map_append, List.map_reverse]; rfl) (by rw [hbc]; exact h)
  have X₁ := X.noted hW₁
  exact ⟨vm₁, mk, X₁, X₁.named hnamed, hstep₁⟩
theorem xw_lkN {idx b : Nat} {host : String} (h : decode M.2.1 pc = .ok (.invokespecial idx, 3)) (hy : M'.1.name = "<init>") (hl : Cond.methodLinkNest M.1.cls idx M'.1 host ∈ xw_T) (hin : Cond.instanceMethod M'.1 ∈ xw_T) (hok : xw_ok M') (hcd : Cond.code M'.1 M'.2.1 M'.2.2.1 none ∈ xw_T)
    (hn : (parseMethodDescriptor M'.1.desc).map (fun d => d.parameters.length) = some As.length) : xw_lk κ l M M' pc w (As.reverse ++ .ref b :: rest) rest (.ref b :: As) := by
  intro G p e R s m args below meth c T locs cells slots ls hS hR X
  obtain ⟨hexec, hbc, hmx, hrt, hlk0, hown, hnm, hts, htr, htab, hRr, hw0⟩ := id hS
  have hpl : e.platform.magicAccessors = ({} : Platform).magicAccessors := by rw [X.admits.platform]
  obtain ⟨mk, methM, cM, kP, vm₁, hnamed, hmethM, hcodeM, -, hlocalsM, -, hkP, -, hW₁, hstep₁⟩ := Steps.initColdArgsNest (e := e) X.here hexec X.warmed hpl hown hy hok.2.2.2 (hts _ hl) (hts _ hin) (hts _ hcd) (f := F0 m pc ls ((As.reverse ++ .ref b :: rest).map (xw_tv G))) rfl (a := xw_ad G b) (argsL := As.map (xw_tv G)) (rest := rest.map (xw_tv G))
    (fun sig hs => by rw [List.length_map]; rw [hs] at hn; exact (Option.some.inj hn).symm) (by show (As.reverse ++ .ref b :: rest).map (xw_tv G) = _; rw [List.map_append, List.map_reverse]; rfl) (by rw [hbc]; exact h)
  have X₁ := X.noted hW₁
  exact ⟨vm₁, mk, X₁, X₁.named hnamed, hstep₁⟩
end XK
end
section
/-! Fields, arrays, new cells. -/
def xw_fl (own : String) (idx ci k ft : Nat) : Prop := ∃ q : vw_C, vwCl[ci]? = some q ∧ k < q.2.2 ∧ Cond.fieldLink own idx q.1 (q.2.1 k).2.1 (q.2.1 k).2.2.1 ∈ xw_T ∧ (q.2.1 k).1 = q.1 ∧ xw_ft ci k = ft
theorem xw_fv0 {ft : Nat} (h : ft ≠ 2) (G : xw_G) (x : Int32) (r : Option Nat) : xw_fv ft G x r = .int x := by simp [xw_fv, h]
theorem xw_fv2 (G : xw_G) (x : Int32) (r : Option Nat) : xw_fv 2 G x r = va_rf (r.map (xw_ad G)) := by simp [xw_fv]
theorem xw_bit (x : Int32) : x &&& 1 = 0 ∨ x &&& 1 = 1 := by
  rw [pk_and x 1 (m := 1) (by decide)]
  rcases (by omega : x.toBitVec.toNat % 2 ^ 1 = 0 ∨ x.toBitVec.toNat % 2 ^ 1 = 1) with h | h <;> rw [h]
  · exact Or.inl (by decide)
  · exact Or.inr (by decide)
theorem xw_bitfit (x : Int32) : fits .boolean (.int (x &&& 1)) = true := by
  rcases xw_bit x with h | h <;> rw [h] <;> rfl
section XF
variable {κ : Nat → Nat × Nat} {l : Launch} {M : xw_M} {pc pc' : Nat} {L : List (Option Value)} {S : List Value} {w : xw_W} {n u : Nat} {σ : xs_S} {ρ : xs_R} {E : xw_O × xw_W}
/-- what is known of a field of an object of the world -/
theorem xw_fld {idx i ci k ft : Nat} {G : xw_G} {p : Program} {R : Room} {s : State} {m : MethodId} {args : Array Value} {meth : Method} {c : Code} {H : Heap} (hF : xw_fl M.1.cls idx ci k ft) (hi : i < w.1) (hκ : κ i = (0, ci)) (hS : xw_S κ G l M p R s m args meth c) (hR : xw_R κ G w s H) :
    ∃ (q : vw_C) (cell : Cell) (kC : Class) (cf fi : Nat) (kf : Class) (f : Field), vwCl[ci]? = some q ∧ k < q.2.2 ∧ (Cond.fieldLink M.1.cls idx q.1 (q.2.1 k).2.1 (q.2.1 k).2.2.1).before args s = true ∧ xw_ft ci k = ft ∧
      H[xw_ad G i]? = some cell ∧ cell.cls = G.1.1 ci ∧ cell.vm = .none ∧ (∀ k, k < q.2.2 → cell.slots[G.1.2 ci k]? = some (xw_fv (xw_ft ci k) G (w.2.2.1 i k) (w.2.2.2 i k))) ∧
      s.vm.findClass q.1 = some (G.1.1 ci) ∧ s.vm.classes[G.1.1 ci]? = some kC ∧ kC.kind = .ordinary ∧ s.fieldFound? q.1 (q.2.1 k).2.1 (q.2.1 k).2.2.1 = some (cf, kf, fi, f) ∧ f.slot = G.1.2 ci k ∧ f.isStatic = false ∧
      (∀ x y, x < q.2.2 → y < q.2.2 → x ≠ y → G.1.2 ci x ≠ G.1.2 ci y) := by
  obtain ⟨q, hq, hkN, hl, hd, hft⟩ := hF
  have hts := hS.2.2.2.2.2.2.2.1
  obtain ⟨q', hq', cell, g1, g2, g3, g4⟩ := (hR.1 i hi).1 (by rw [hκ])
  rw [hκ] at hq' g2 g4
  cases hq.symm.trans hq'
  have hK := hR.2.2.2.2.1
  obtain ⟨hSl, hfc, kC, hkC, hkind⟩ := hK.1 ci q hq
  obtain ⟨cf, kf, fi, f, hfi, hsl⟩ := hSl k hkN
  have hin := xw_cl1 ci q hq
  have hst := (u_facts hfc hkC (u_lays hts hin hkN) hfi).1
  rw [hd] at hfi
  have hap := va_apart (own := M.1.cls) (C := q.1) (T := q.2.1) (N := q.2.2) hts hin (xw_fT ci) (xw_cl2 ci q hq) (xw_cl3 ci q hq) hK hq
  exact ⟨q, cell, kC, cf, fi, kf, f, hq, hkN, hts _ hl, hft, g1, g2, g3, g4, hfc, hkC, hkind, hfi, hsl, hst, hap⟩
theorem xw_getI {idx i ci k ft : Nat} (h : xw_dec M.2.1 pc (.getfield idx) 3 pc') (hF : xw_fl M.1.cls idx ci k ft) (hf : ft ≠ 2) (hi : i < n) (hκ : κ i = (0, ci)) (kk : xw_w κ l M pc' L (.int (σ i k) :: S) (n, u, σ, ρ) E) : xw_w κ l M pc L (.ref i :: S) (n, u, σ, ρ) E := by
  obtain ⟨hdg, rfl⟩ := h
  refine xw_s kk fun G p e R s m args below meth c H locs cells slots ls Q hS hR hL kw => ?_
  obtain ⟨q, cell, kC, cf, fi, kf, f, hq, hkN, hl, hft, g1, g2, g3, g4, hfc, hkC, hkind, hfi, hsl, hst, hap⟩ := xw_fld (w := (n, u, σ, ρ)) hF hi hκ hS hR
  refine W.getf hS.1 hS.2.1 hS.2.2.2.2.2.1 hl hfi hst g1 (by rw [g3]; exact fun h => by cases h) (v := .int (σ i k)) ?_ rfl rfl hdg kw
  rw [hsl, g4 k hkN, hft, xw_fv0 hf]
theorem xw_getR {idx i ci k j : Nat} (h : xw_dec M.2.1 pc (.getfield idx) 3 pc') (hF : xw_fl M.1.cls idx ci k 2) (hi : i < n) (hκ : κ i = (0, ci)) (hj : ρ i k = some j) (kk : xw_w κ l M pc' L (.ref j :: S) (n, u, σ, ρ) E) : xw_w κ l M pc L (.ref i :: S) (n, u, σ, ρ) E := by
  obtain ⟨hdg, rfl⟩ := h
  refine xw_s kk fun G p e R s m args below meth c H locs cells slots ls Q hS hR hL kw => ?_
  obtain ⟨q, cell, kC, cf, fi, kf, f, hq, hkN, hl, hft, g1, g2, g3, g4, hfc, hkC, hkind, hfi, hsl, hst, hap⟩ := xw_fld (w := (n, u, σ, ρ)) hF hi hκ hS hR
  refine W.getf hS.1 hS.2.1 hS.2.2.2.2.2.1 hl hfi hst g1 (by rw [g3]; exact fun h => by cases h) (v := .ref (xw_ad G j)) ?_ rfl rfl hdg kw
  rw [hsl, g4 k hkN, hft, xw_fv2]
  show some (va_rf (Option.map (xw_ad G) (ρ i k))) = _
  rw [hj]
  rfl
end XF
section XN
variable {p : Program} {l : Launch} {e : Env} {R : Room} {s : State} {m : MethodId} {args : Array Value} {below : List Frame} {meth : Method} {c : Code} {H : Heap} {locs : List Loc} {cells slots : Nat} {Q : State → Prop}
/-- a field that keeps what 'narrow' leaves -/
theorem xw_Wput {cc : ByteArray} (hexec : p.tables.exec = Jvm.exec) (hb : c.code = cc) {own ref name desc : String} {index : Nat} (hown : s.vm.findClass own = some m.cls) (hlink : (Cond.fieldLink own index ref name desc).before args s = true)
    {cf i : Nat} {k : Class} {f : Field} (hi : s.fieldFound? ref name desc = some (cf, k, i, f)) (hst : f.isStatic = false) (hnf : hasFlag f.accessFlags Acc.final = false)
    {a : Addr} {cell : Cell} {v v' : Value} (hcell : H[a]? = some cell) (hvm : cell.vm = .none) (hlt : f.slot < cell.slots.size) (hnarrow : narrow f.type v = v') (hfit : s.fitsSlot cell.cls .none f.slot v' = true)
    {g : JFrame} (hg : g.method = m) {rest : List Value} (hstack : g.stack = v :: .ref a :: rest) (hdg : decode cc g.pc = .ok (.putfield index, 3))
    (kk : ∀ H' : Heap, H'[a]? = some (cell.setSlot f.slot v') → H'.size = H.size → (∀ q, q ≠ a → H'[q]? = H[q]?) → W p l e R s m args below meth c H' (locs ++ [⟨a, f.slot⟩]) cells slots Q { g with pc := g.pc + 3, stack := rest }) : W p l e R s m args below meth c H locs cells slots Q g := by
  intro T hT X
  subst hT; subst hb
  have ha : a < T.heap.size := (Array.getElem?_eq_some_iff.mp hcell).1
  have hknown : cell.vm ≠ .unknown := by rw [hvm]; exact fun h => by cases h
  have hpl : e.platform.magicAccessors = ({} : Platform).magicAccessors := by rw [X.admits.platform]
  obtain ⟨ci', cfl, k', i', f', hi', hlinks, hright⟩ := Cond.fieldLink_spec hown hlink e.platform hpl
  cases hi.symm.trans hi'
  obtain ⟨hk, hf⟩ := State.fieldFound?_spec hi
  obtain ⟨vm', hgives, hW', hready, hfi⟩ := State.fieldEntry (e := e) X.warmed hlinks hright hk hf
  have X₁ := X.noted hW'
  have hcell₁ : (T.setVm vm').heap[a]? = some cell := hcell
  have ha₁ : a < (T.setVm vm').heap.size := ha
  obtain ⟨t, a1, b1⟩ := kk _ (heapAt_setCell_self (s := T.setVm vm') (cell.setSlot f.slot v') ha₁) (by rw [size_setCell]; rfl) (fun q hq => by rw [heapAt_setCell_ne _ (Ne.symm hq)]; rfl) ((T.setVm vm').setCell a (cell.setSlot f.slot v')) rfl (X₁.stored hcell₁ f.slot v')
  refine ⟨t, ?_, b1⟩
  subst hg
  have hfitT : (T.setVm vm').fitsSlot cell.cls cell.vm f.slot v' = true := by
    rw [hvm]
    show (s.setVm vm').fitsSlot cell.cls .none f.slot v' = true
    rw [State.fitsSlot_setVm hW'.alike]; exact hfit
  jvm_step X.here [hexec, hdg, putfield.wp_cold (e := e) (s := T) (f := g) X.here.top hgives hready hfi,
    putfield.wp_ready (e := e) (s := T.setVm vm') (f := g) X.here.top hready hst hnf hstack hcell₁ hknown, hnarrow, hlt, hfitT]
  exact a1
end XN
section XP
variable {κ : Nat → Nat × Nat} {l : Launch} {M : xw_M} {pc pc' : Nat} {L : List (Option Value)} {S : List Value} {w : xw_W} {n u : Nat} {σ : xs_S} {ρ : xs_R} {E : xw_O × xw_W}
theorem xw_lcs {G : xw_G} {locs : List Loc} {i j : Nat} (h : xw_lc G locs) (hi : 0 < i) : xw_lc G (locs ++ [⟨xw_ad G i, j⟩]) := fun q hq => by
  rcases List.mem_append.mp hq with h1 | h1
  · exact h q h1
  · exact ⟨i, hi, by rw [List.mem_singleton.mp h1]⟩
theorem xw_lays {args : Array Value} {s : State} {ci k : Nat} {q : vw_C} (hq : vwCl[ci]? = some q) (hk : k < q.2.2) (hnf : (q.2.1 k).2.2.2 = false) (hd : (q.2.1 k).1 = q.1) (hts : ∀ w ∈ xw_T, w.before args s = true) : (Cond.lays q.1 q.1 (q.2.1 k).2.1 (q.2.1 k).2.2.1).before args s = true := by
  have h := hts _ (xw_cl1 ci q hq _ (u_in_lay hk))
  unfold u_lay at h
  rw [if_neg (by rw [hnf]; decide), hd] at h
  exact h
/-- the cell behind a store into a field -/
theorem xw_Cput {G : xw_G} {s : State} {H' : Heap} {i ci k : Nat} {q : vw_C} {cell : Cell} {v : Value} {σ' : xs_S} {ρ' : xs_R} (hκ : κ i = (0, ci)) (hq : vwCl[ci]? = some q) (hkN : k < q.2.2) (g2 : cell.cls = G.1.1 ci) (g3 : cell.vm = .none)
    (g4 : ∀ k, k < q.2.2 → cell.slots[G.1.2 ci k]? = some (xw_fv (xw_ft ci k) G (σ i k) (ρ i k))) (hap : ∀ x y, x < q.2.2 → y < q.2.2 → x ≠ y → G.1.2 ci x ≠ G.1.2 ci y)
    (e1 : H'[xw_ad G i]? = some (cell.setSlot (G.1.2 ci k) v)) (hv : xw_fv (xw_ft ci k) G (σ' i k) (ρ' i k) = v) (ho : ∀ j, j ≠ k → σ' i j = σ i j ∧ ρ' i j = ρ i j) : xw_C κ G σ' ρ' s H' i := by
  refine ⟨fun _ => ?_, fun z => (by rw [hκ] at z; cases z), fun z => (by rw [hκ] at z; cases z), fun z => (by rw [hκ] at z; cases z), fun z => (by rw [hκ] at z; have z : 4 ≤ _ := z; simp at z)⟩
  rw [hκ]
  refine ⟨q, hq, cell.setSlot (G.1.2 ci k) v, e1, g2, g3, fun j hj => ?_⟩
  rw [t_set g4 hap hkN v j hj]
  unfold updV
  by_cases hjk : j = k
  · subst hjk
    rw [if_pos rfl]
    show some v = some (xw_fv (xw_ft ci j) G (σ' i j) (ρ' i j))
    rw [hv]
  · rw [if_neg hjk]
    show some (xw_fv (xw_ft ci j) G (σ i j) (ρ i j)) = some (xw_fv (xw_ft ci j) G (σ' i j) (ρ' i j))
    rw [(ho j hjk).1, (ho j hjk).2]
theorem xw_putI {idx i ci k : Nat} {x : Int32} (h : xw_dec M.2.1 pc (.putfield idx) 3 pc') (hF : xw_fl M.1.cls idx ci k 0) (hnf : ∀ q, vwCl[ci]? = some q → (q.2.1 k).2.2.2 = false) (h0 : 0 < i) (hi : i < n) (hκ : κ i = (0, ci))
    (kk : xw_w κ l M pc' L S (n, u, xu_u σ i k x, ρ) E) : xw_w κ l M pc L (.int x :: .ref i :: S) (n, u, σ, ρ) E := by
  obtain ⟨hdg, rfl⟩ := h
  refine ⟨kk.1, fun G p e R s m args below meth c H locs cells slots ls hS hR hL hlo hc hs => ?_⟩
  obtain ⟨q, cell, kC, cf, fi, kf, f, hq, hkN, hl, hft, g1, g2, g3, g4, hfc, hkC, hkind, hfi, hsl, hst, hap⟩ := xw_fld (w := (n, u, σ, ρ)) hF hi hκ hS hR
  have hty : xw_fT ci k = .int := xw_cl4 ci k q hq hkN hft
  have hd : (q.2.1 k).1 = q.1 := by
    obtain ⟨q2, hq2, -, -, hd2, -⟩ := hF
    cases hq.symm.trans hq2
    exact hd2
  have h6 := u_store hfc hkC hkind (xw_lays hq hkN (hnf q hq) hd hS.2.2.2.2.2.2.2.1) hfi (xw_cl2 ci q hq k hkN) (v := .int x) (by rw [hty]; rfl) (by rw [hty]; rfl)
  refine W.putK hS.1 hS.2.1 (f := f) ⟨hS.2.2.2.2.2.1, hl, ⟨_, _, _, hfi⟩, hst⟩ (by rw [g2]; exact h6) g1 g3 (by rw [hsl]; exact k2_hasslot (g4 k hkN)) rfl rfl hdg fun H' e1 e2 e3 => ?_
  rw [hsl] at e1
  refine kk.2 G p e R s m args below meth c H' (locs ++ [⟨xw_ad G i, f.slot⟩]) cells slots ls hS (hR.put hi e2 e3 (xw_Cput hκ hq hkN g2 g3 g4 hap e1 ?_ ?_) (fun j k' hj => xu_ne hj) (fun _ _ _ => rfl)) hL (xw_lcs hlo h0) hc hs
  · rw [hft, xw_fv0 (by decide)]
    simp [xu_u, xw_tv]
  · intro j hj
    exact ⟨by simp [xu_u, hj], rfl⟩
theorem xw_putZ {idx i ci k : Nat} {x : Int32} (h : xw_dec M.2.1 pc (.putfield idx) 3 pc') (hF : xw_fl M.1.cls idx ci k 1) (hnf : ∀ q, vwCl[ci]? = some q → (q.2.1 k).2.2.2 = false) (h0 : 0 < i) (hi : i < n) (hκ : κ i = (0, ci))
    (kk : xw_w κ l M pc' L S (n, u, xu_u σ i k (x &&& 1), ρ) E) : xw_w κ l M pc L (.int x :: .ref i :: S) (n, u, σ, ρ) E := by
  obtain ⟨hdg, rfl⟩ := h
  refine ⟨kk.1, fun G p e R s m args below meth c H locs cells slots ls hS hR hL hlo hc hs => ?_⟩
  obtain ⟨q, cell, kC, cf, fi, kf, f, hq, hkN, hl, hft, g1, g2, g3, g4, hfc, hkC, hkind, hfi, hsl, hst, hap⟩ := xw_fld (w := (n, u, σ, ρ)) hF hi hκ hS hR
  have hty : xw_fT ci k = .boolean := xw_cl5 ci k q hq hkN hft
  have hd : (q.2.1 k).1 = q.1 := by
    obtain ⟨q2, hq2, -, -, hd2, -⟩ := hF
    cases hq.symm.trans hq2
    exact hd2
  have hn1 : narrow .boolean (.int (x &&& 1)) = .int (x &&& 1) := by
    show Value.int (x &&& 1 &&& 1) = _
    rcases xw_bit x with h | h <;> rw [h] <;> rfl
  have h6 := u_store hfc hkC hkind (xw_lays hq hkN (hnf q hq) hd hS.2.2.2.2.2.2.2.1) hfi (xw_cl2 ci q hq k hkN) (v := .int (x &&& 1)) (by rw [hty]; exact hn1) (by rw [hty]; exact xw_bitfit x)
  have hft2 : f.type = .boolean := by rw [(State.fieldFound?_type hfi (xw_cl2 ci q hq k hkN)).2, hty]
  refine xw_Wput hS.1 hS.2.1 hS.2.2.2.2.2.1 hl hfi hst h6.1 g1 g3 (by rw [hsl]; exact k2_hasslot (g4 k hkN)) (v := .int x) (v' := .int (x &&& 1)) (by rw [hft2]; rfl) (by rw [g2]; exact h6.2.2) rfl rfl hdg fun H' e1 e2 e3 => ?_
  rw [hsl] at e1
  refine kk.2 G p e R s m args below meth c H' (locs ++ [⟨xw_ad G i, f.slot⟩]) cells slots ls hS (hR.put hi e2 e3 (xw_Cput hκ hq hkN g2 g3 g4 hap e1 ?_ ?_) (fun j k' hj => xu_ne hj) (fun _ _ _ => rfl)) hL (xw_lcs hlo h0) hc hs
  · rw [hft, xw_fv0 (by decide)]
    simp [xu_u, xw_tv]
  · intro j hj
    exact ⟨by simp [xu_u, hj], rfl⟩
theorem xw_putR {idx i ci k j : Nat} (h : xw_dec M.2.1 pc (.putfield idx) 3 pc') (hF : xw_fl M.1.cls idx ci k 2) (hnf : ∀ q, vwCl[ci]? = some q → (q.2.1 k).2.2.2 = false) (h0 : 0 < i) (hi : i < n) (hκ : κ i = (0, ci))
    (kk : xw_w κ l M pc' L S (n, u, σ, xu_r ρ i k (some j)) E) : xw_w κ l M pc L (.ref j :: .ref i :: S) (n, u, σ, ρ) E := by
  obtain ⟨hdg, rfl⟩ := h
  refine ⟨kk.1, fun G p e R s m args below meth c H locs cells slots ls hS hR hL hlo hc hs => ?_⟩
  obtain ⟨q, cell, kC, cf, fi, kf, f, hq, hkN, hl, hft, g1, g2, g3, g4, hfc, hkC, hkind, hfi, hsl, hst, hap⟩ := xw_fld (w := (n, u, σ, ρ)) hF hi hκ hS hR
  obtain ⟨hty1, hty2⟩ := xw_cl6 ci k q hq hkN hft
  have hd : (q.2.1 k).1 = q.1 := by
    obtain ⟨q2, hq2, -, -, hd2, -⟩ := hF
    cases hq.symm.trans hq2
    exact hd2
  have h6 := u_store hfc hkC hkind (xw_lays hq hkN (hnf q hq) hd hS.2.2.2.2.2.2.2.1) hfi (xw_cl2 ci q hq k hkN) (v := .ref (xw_ad G j)) (hty1 _) (hty2 _)
  refine W.putK hS.1 hS.2.1 (f := f) ⟨hS.2.2.2.2.2.1, hl, ⟨_, _, _, hfi⟩, hst⟩ (by rw [g2]; exact h6) g1 g3 (by rw [hsl]; exact k2_hasslot (g4 k hkN)) rfl rfl hdg fun H' e1 e2 e3 => ?_
  rw [hsl] at e1
  refine kk.2 G p e R s m args below meth c H' (locs ++ [⟨xw_ad G i, f.slot⟩]) cells slots ls hS (hR.put hi e2 e3 (xw_Cput hκ hq hkN g2 g3 g4 hap e1 ?_ ?_) (fun _ _ _ => rfl) (fun j k' hj => xu_rn hj)) hL (xw_lcs hlo h0) hc hs
  · rw [hft, xw_fv2]
    simp [xu_r, va_rf, xw_tv]
  · intro j hj
    exact ⟨rfl, by simp [xu_r, hj]⟩
theorem xw_putF {idx i ci k j : Nat} (h : xw_dec M.2.1 pc (.putfield idx) 3 pc') (hF : xw_fl M.1.cls idx ci k 2) (hnf : ∀ q, vwCl[ci]? = some q → (q.2.1 k).2.2.2 = true ∧ q.1 = M.1.cls) (hin : M.1.name = "<init>") (h0 : 0 < i) (hi : i < n) (hκ : κ i = (0, ci))
    (kk : xw_w κ l M pc' L S (n, u, σ, xu_r ρ i k (some j)) E) : xw_w κ l M pc L (.ref j :: .ref i :: S) (n, u, σ, ρ) E := by
  obtain ⟨hdg, rfl⟩ := h
  refine ⟨kk.1, fun G p e R s m args below meth c H locs cells slots ls hS hR hL hlo hc hs => ?_⟩
  obtain ⟨q, cell, kC, cf, fi, kf, f, hq, hkN, hl, hft, g1, g2, g3, g4, hfc, hkC, hkind, hfi, hsl, hst, hap⟩ := xw_fld (w := (n, u, σ, ρ)) hF hi hκ hS hR
  obtain ⟨hty1, hty2⟩ := xw_cl6 ci k q hq hkN hft
  have hd : (q.2.1 k).1 = q.1 := by
    obtain ⟨q2, hq2, -, -, hd2, -⟩ := hF
    cases hq.symm.trans hq2
    exact hd2
  have hown := hS.2.2.2.2.2.1
  have hlay := hS.2.2.2.2.2.2.2.1 _ (xw_cl1 ci q hq _ (u_in_lay hkN))
  unfold u_lay at hlay
  rw [if_pos (hnf q hq).1, hd] at hlay
  have hcf : m.cls = cf := by
    obtain ⟨_, _, c', _, _, _, -, -, hf', -, -, -, hown2, -⟩ := Cond.laysFinal_spec hlay
    have e1 : c' = cf := by have := hfi.symm.trans hf'; simp at this; exact this.1.symm
    rw [(hnf q hq).2] at hown2
    rw [← e1]; exact Option.some.inj (hown.symm.trans hown2)
  have h6 := u_fits hfc hkC hkind (Or.inr hlay) hfi (xw_cl2 ci q hq k hkN) (v := .ref (xw_ad G j)) (hty1 _) (hty2 _)
  refine W.putFinK hS.1 hS.2.1 hown hl hfi hst hcf (hS.2.2.2.2.2.2.1.trans hin) (by rw [g2]; exact h6) g1 g3 (by rw [hsl]; exact k2_hasslot (g4 k hkN)) rfl rfl hdg fun H' e1 e2 e3 => ?_
  rw [hsl] at e1
  refine kk.2 G p e R s m args below meth c H' (locs ++ [⟨xw_ad G i, f.slot⟩]) cells slots ls hS (hR.put hi e2 e3 (xw_Cput hκ hq hkN g2 g3 g4 hap e1 ?_ ?_) (fun _ _ _ => rfl) (fun j k' hj => xu_rn hj)) hL (xw_lcs hlo h0) hc hs
  · rw [hft, xw_fv2]
    simp [xu_r, va_rf, xw_tv]
  · intro j hj
    exact ⟨rfl, by simp [xu_r, hj]⟩
end XP
section XA
variable {κ : Nat → Nat × Nat} {l : Launch} {M : xw_M} {pc pc' : Nat} {L : List (Option Value)} {S : List Value} {w : xw_W} {n u : Nat} {σ : xs_S} {ρ : xs_R} {E : xw_O × xw_W}
theorem xw_iald {i N j : Nat} {x : Int32} (h : xw_dec M.2.1 pc .iaload 1 pc') (hi : i < n) (hκ : κ i = (1, N)) (hx : vp_in x N) (hj : x.toNatClampNeg = j) (kk : xw_w κ l M pc' L (.int (σ i j) :: S) (n, u, σ, ρ) E) : xw_w κ l M pc L (.int x :: .ref i :: S) (n, u, σ, ρ) E := by
  obtain ⟨hdg, rfl⟩ := h
  subst hj
  refine xw_s kk fun G p e R s m args below meth c H locs cells slots ls Q hS hR hL kw => ?_
  have hcell := (hR.1 i hi).2.1 (by rw [hκ])
  rw [hκ] at hcell
  have hlt : x.toNatClampNeg < N := Nat.not_le.mp fun q => hx (Or.inr q)
  exact W.iald (v := .int (σ i x.toNatClampNeg)) hS.1 hS.2.1 hcell ((hR.2.2.2.2.1.2 0 _ rfl).1 N _) (fun q => by cases q) (by rw [arrV_size]; exact hx) (by rw [arrV_read _ _ hlt]) rfl rfl hdg kw
theorem xw_zald {i N j : Nat} {x : Int32} (h : xw_dec M.2.1 pc .baload 1 pc') (hi : i < n) (hκ : κ i = (2, N)) (hx : vp_in x N) (hj : x.toNatClampNeg = j) (kk : xw_w κ l M pc' L (.int (σ i j) :: S) (n, u, σ, ρ) E) : xw_w κ l M pc L (.int x :: .ref i :: S) (n, u, σ, ρ) E := by
  obtain ⟨hdg, rfl⟩ := h
  subst hj
  refine xw_s kk fun G p e R s m args below meth c H locs cells slots ls Q hS hR hL kw => ?_
  have hcell := (hR.1 i hi).2.2.1 (by rw [hκ])
  rw [hκ] at hcell
  have hlt : x.toNatClampNeg < N := Nat.not_le.mp fun q => hx (Or.inr q)
  exact W.zald (v := .int (σ i x.toNatClampNeg)) hS.1 hS.2.1 hcell ((hR.2.2.2.2.1.2 1 _ rfl).1 N _) (fun q => by cases q) (by rw [arrV_size]; exact hx) (by rw [arrV_read _ _ hlt]) rfl rfl hdg kw
theorem xw_sald {i N j : Nat} {x : Int32} (h : xw_dec M.2.1 pc .iaload 1 pc') (hi : i < n) (hκ : κ i = (3, N)) (hx : vp_in x N) (hj : x.toNatClampNeg = j) (kk : xw_w κ l M pc' L (.int (σ i j) :: S) (n, u, σ, ρ) E) : xw_w κ l M pc L (.int x :: .ref i :: S) (n, u, σ, ρ) E := by
  obtain ⟨hdg, rfl⟩ := h
  subst hj
  refine xw_s kk fun G p e R s m args below meth c H locs cells slots ls Q hS hR hL kw => ?_
  obtain ⟨scr, h1, h2, h3, h4, h5⟩ := (hR.1 i hi).2.2.2.1 (by rw [hκ])
  rw [hκ] at h4 h5
  have hlt : x.toNatClampNeg < N := Nat.not_le.mp fun q => hx (Or.inr q)
  exact W.iald (v := .int (σ i x.toNatClampNeg)) hS.1 hS.2.1 h1 h2 h3 (by rw [h4]; exact hx) (h5 _ hlt) rfl rfl hdg kw
theorem xw_slen {i N : Nat} (h : xw_dec M.2.1 pc .arraylength 1 pc') (hi : i < n) (hκ : κ i = (3, N)) (kk : xw_w κ l M pc' L (.int (Int32.ofNat N) :: S) (n, u, σ, ρ) E) : xw_w κ l M pc L (.ref i :: S) (n, u, σ, ρ) E := by
  obtain ⟨hdg, rfl⟩ := h
  refine xw_s kk fun G p e R s m args below meth c H locs cells slots ls Q hS hR hL kw => ?_
  obtain ⟨scr, h1, h2, h3, h4, h5⟩ := (hR.1 i hi).2.2.2.1 (by rw [hκ])
  rw [hκ] at h4
  exact W.alen (n := Int32.ofNat N) hS.1 hS.2.1 h1 h2 (by rw [h4] <;> rfl) rfl rfl hdg kw
theorem xw_arrput {i N j : Nat} {x : Int32} {cA : ClassId} : (arrV cA N (fun k => .int (σ i k))).setSlot j (.int x) = arrV cA N (fun k => .int (xu_u σ i j x i k)) := by
  rw [arrV_store]
  congr 1
  funext k
  by_cases hk : k = j
  · subst hk; simp [updV, xu_u]
  · simp [updV, xu_u, hk]
theorem xw_iast {i N j : Nat} {x y : Int32} (h : xw_dec M.2.1 pc .iastore 1 pc') (h0 : 0 < i) (hi : i < n) (hκ : κ i = (1, N)) (hx : vp_in x N) (hj : x.toNatClampNeg = j) (kk : xw_w κ l M pc' L S (n, u, xu_u σ i j y, ρ) E) : xw_w κ l M pc L (.int y :: .int x :: .ref i :: S) (n, u, σ, ρ) E := by
  obtain ⟨hdg, rfl⟩ := h
  subst hj
  refine ⟨kk.1, fun G p e R s m args below meth c H locs cells slots ls hS hR hL hlo hc hs => ?_⟩
  have hcell := (hR.1 i hi).2.1 (by rw [hκ])
  rw [hκ] at hcell
  refine W.iast hS.1 hS.2.1 hcell ((hR.2.2.2.2.1.2 0 _ rfl).1 N _) (fun q => by cases q) (by rw [arrV_size]; exact hx) rfl rfl hdg fun H' e1 e2 e3 => ?_
  rw [xw_arrput] at e1
  refine kk.2 G p e R s m args below meth c H' (locs ++ [⟨xw_ad G i, x.toNatClampNeg⟩]) cells slots ls hS (hR.put hi e2 e3 ?_ (fun j k' hj => xu_ne hj) (fun _ _ _ => rfl)) hL (xw_lcs hlo h0) hc hs
  refine ⟨fun z => (by rw [hκ] at z; cases z), fun _ => (by rw [hκ]; exact e1), fun z => (by rw [hκ] at z; cases z), fun z => (by rw [hκ] at z; cases z), fun z => (by rw [hκ] at z; have z : 4 ≤ _ := z; simp at z)⟩
theorem xw_zast {i N j : Nat} {x y : Int32} (h : xw_dec M.2.1 pc .bastore 1 pc') (h0 : 0 < i) (hi : i < n) (hκ : κ i = (2, N)) (hx : vp_in x N) (hj : x.toNatClampNeg = j) (kk : xw_w κ l M pc' L S (n, u, xu_u σ i j (y &&& 1), ρ) E) : xw_w κ l M pc L (.int y :: .int x :: .ref i :: S) (n, u, σ, ρ) E := by
  obtain ⟨hdg, rfl⟩ := h
  subst hj
  refine ⟨kk.1, fun G p e R s m args below meth c H locs cells slots ls hS hR hL hlo hc hs => ?_⟩
  have hcell := (hR.1 i hi).2.2.1 (by rw [hκ])
  rw [hκ] at hcell
  refine W.zast hS.1 hS.2.1 hcell ((hR.2.2.2.2.1.2 1 _ rfl).1 N _) (fun q => by cases q) (by rw [arrV_size]; exact hx) rfl rfl hdg fun H' e1 e2 e3 => ?_
  have e1 : H'[xw_ad G i]? = some ((arrV G.2.1.2.1 N (fun k => .int (σ i k))).setSlot x.toNatClampNeg (.int (y &&& 1))) := e1
  rw [xw_arrput] at e1
  refine kk.2 G p e R s m args below meth c H' (locs ++ [⟨xw_ad G i, x.toNatClampNeg⟩]) cells slots ls hS (hR.put hi e2 e3 ?_ (fun j k' hj => xu_ne hj) (fun _ _ _ => rfl)) hL (xw_lcs hlo h0) hc hs
  refine ⟨fun z => (by rw [hκ] at z; cases z), fun z => (by rw [hκ] at z; cases z), fun _ => (by rw [hκ]; exact e1), fun z => (by rw [hκ] at z; cases z), fun z => (by rw [hκ] at z; have z : 4 ≤ _ := z; simp at z)⟩
theorem xw_new {idx ci N : Nat} {C : String} {T : u_T} (h : xw_dec M.2.1 pc (.new idx) 3 pc') (hq : vwCl[ci]? = some (C, T, N)) (hcl : Cond.classLink M.1.cls idx C ∈ xw_T) (hins : Cond.instantiable C N ∈ xw_T) (hini : Cond.initialized C ∈ xw_T) (hκ : κ n = (0, ci))
    (kk : xw_w κ l M pc' L (.ref n :: S) (n + 1, u + N, xu_z σ n, xu_n ρ n) E) : xw_w κ l M pc L S (n, u, σ, ρ) E := by
  obtain ⟨hdg, rfl⟩ := h
  have hm1 : n + 1 ≤ E.2.1 := kk.1.1
  have hm2 : u + N ≤ E.2.2.1 := kk.1.2
  refine ⟨⟨Nat.le_of_succ_le hm1, Nat.le_trans (Nat.le_add_right _ _) hm2⟩, fun G p e R s m args below meth c H locs cells slots ls hS hR hL hlo hc hs => ?_⟩
  have hts := hS.2.2.2.2.2.2.2.1
  have hKn := hR.2.2.2.2.1.1 ci _ hq
  have hc : cells + (E.2.1 - n) ≤ R.cells := hc
  have hs : slots + (E.2.2.1 - u) ≤ R.slots := hs
  refine W.newcK hS.1 hS.2.1 hS.2.2.2.2.2.1 (hts _ hcl) (hts _ hins) (hts _ hini) rfl hdg (by omega) (by omega) hKn.2.1 hR.next fun H' kC hkC e1 z1 o1 => ?_
  have e4 : cells + 1 + (E.2.1 - (n + 1)) = cells + (E.2.1 - n) := by omega
  have e5 : slots + N + (E.2.2.1 - (u + N)) = slots + (E.2.2.1 - u) := by omega
  have hRn : xw_R κ G (n + 1, u + N, xu_z σ n, xu_n ρ n) s H' := by
    refine hR.new (by rw [z1, ← hR.next]) (fun q hq => o1 q (by rw [← hR.next]; exact hq)) ?_ (fun j k hj => xu_zn hj) (fun j k hj => xu_nn hj)
    refine ⟨fun _ => ?_, fun z => (by rw [hκ] at z; cases z), fun z => (by rw [hκ] at z; cases z), fun z => (by rw [hκ] at z; cases z), fun z => (by rw [hκ] at z; have z : 4 ≤ _ := z; simp at z)⟩
    rw [hκ]
    refine ⟨(C, T, N), hq, (u_born (xw_fT ci) hts (xw_cl1 ci _ hq) hKn hkC e1 (xw_cl2 ci _ hq)).to fun k hk => ?_⟩
    rw [xu_zz, xu_nz]
    exact xw_cl7 ci k _ hq hk G
  have kW := kk.2 G p e R s m args below meth c H' locs (cells + 1) (slots + N) ls hS hRn hL hlo (show cells + 1 + (E.2.1 - (n + 1)) ≤ R.cells by omega) (show slots + N + (E.2.2.1 - (u + N)) ≤ R.slots by omega)
  have kW : W p l e R s m args below meth c H' locs (cells + 1) (slots + N) (xw_Q κ G below s E (cells + 1 + (E.2.1 - (n + 1))) (slots + N + (E.2.2.1 - (u + N)))) (F0 m (pc + 3) ls (.ref (xw_ad G n) :: S.map (xw_tv G))) := kW
  rw [e4, e5] at kW
  exact kW
theorem xw_newa {x : Int32} {N : Nat} {at0 : ArrayType} {j : Nat} {ty : FieldType} (h : xw_dec M.2.1 pc (.newarray at0) 2 pc') (hty : newarray.typeOf at0 = ty) (hj : (j = 1 ∧ ty = .int) ∨ (j = 2 ∧ ty = .boolean)) (harr : Cond.arrayClass ty ∈ xw_T) (hx : ¬ x < 0) (hN : x.toNatClampNeg = N) (hbytes : N * componentBytes ty ≤ 536870912) (hκ : κ n = (j, N))
    (kk : xw_w κ l M pc' L (.ref n :: S) (n + 1, u + N, xu_z σ n, xu_n ρ n) E) : xw_w κ l M pc L (.int x :: S) (n, u, σ, ρ) E := by
  obtain ⟨hdg, rfl⟩ := h
  subst hty
  have hm1 : n + 1 ≤ E.2.1 := kk.1.1
  have hm2 : u + N ≤ E.2.2.1 := kk.1.2
  refine ⟨⟨Nat.le_of_succ_le hm1, Nat.le_trans (Nat.le_add_right _ _) hm2⟩, fun G p e R s m args below meth c H locs cells slots ls hS hR hL hlo hc hs => ?_⟩
  have hts := hS.2.2.2.2.2.2.2.1
  have hc : cells + (E.2.1 - n) ≤ R.cells := hc
  have hs : slots + (E.2.2.1 - u) ≤ R.slots := hs
  refine va_newaK hS.1 hS.2.1 (hts _ harr) rfl hdg rfl hx hN hbytes (by omega) (by omega) hR.next fun H' cA e1 z1 o1 hAr hNm => ?_
  have e4 : cells + 1 + (E.2.1 - (n + 1)) = cells + (E.2.1 - n) := by omega
  have e5 : slots + N + (E.2.2.1 - (u + N)) = slots + (E.2.2.1 - u) := by omega
  have hRn : xw_R κ G (n + 1, u + N, xu_z σ n, xu_n ρ n) s H' := by
    refine hR.new (by rw [z1, ← hR.next]) (fun q hq => o1 q (by rw [← hR.next]; exact hq)) ?_ (fun j k hj => xu_zn hj) (fun j k hj => xu_nn hj)
    rcases hj with ⟨rfl, hty⟩ | ⟨rfl, hty⟩
    · have hA : G.2.1.1 = cA := by
        have h1 := (hR.2.2.2.2.1.2 0 _ rfl).2
        rw [hty] at hNm
        exact Option.some.inj (h1.symm.trans hNm)
      refine ⟨fun z => (by rw [hκ] at z; cases z), fun _ => ?_, fun z => (by rw [hκ] at z; cases z), fun z => (by rw [hκ] at z; cases z), fun z => (by rw [hκ] at z; have z : 4 ≤ _ := z; simp at z)⟩
      rw [hκ, hA, e1, hty]
      congr 2
      funext k
      rw [xu_zz]
      rfl
    · have hA : G.2.1.2.1 = cA := by
        have h1 := (hR.2.2.2.2.1.2 1 _ rfl).2
        rw [hty] at hNm
        exact Option.some.inj (h1.symm.trans hNm)
      refine ⟨fun z => (by rw [hκ] at z; cases z), fun z => (by rw [hκ] at z; cases z), fun _ => ?_, fun z => (by rw [hκ] at z; cases z), fun z => (by rw [hκ] at z; have z : 4 ≤ _ := z; simp at z)⟩
      rw [hκ, hA, e1, hty]
      congr 2
      funext k
      rw [xu_zz]
      rfl
  have kW := kk.2 G p e R s m args below meth c H' locs (cells + 1) (slots + N) ls hS hRn hL hlo (show cells + 1 + (E.2.1 - (n + 1)) ≤ R.cells by omega) (show slots + N + (E.2.2.1 - (u + N)) ≤ R.slots by omega)
  have kW : W p l e R s m args below meth c H' locs (cells + 1) (slots + N) (xw_Q κ G below s E (cells + 1 + (E.2.1 - (n + 1))) (slots + N + (E.2.2.1 - (u + N)))) (F0 m (pc + 2) ls (.ref (xw_ad G n) :: S.map (xw_tv G))) := kW
  rw [e4, e5] at kW
  exact kW
/-- Object.<init> -/
theorem xw_obj {idx i : Nat} (h : xw_dec M.2.1 pc (.invokespecial idx) 3 pc') (hl : Cond.methodLink M.1.cls idx Lib.objectInit ∈ xw_T) (hin : Cond.instanceMethod Lib.objectInit ∈ xw_T) (hcd : Cond.code Lib.objectInit ⟨#[0xb1]⟩ 1 none ∈ xw_T) (hr : 1 ≤ M.2.2.2.2.2.1 ∧ (S.map fun v => v.category).sum + 12 ≤ M.2.2.2.2.2.2)
    (kk : xw_w κ l M pc' L S w E) : xw_w κ l M pc L (.ref i :: S) w E := by
  obtain ⟨hdg, rfl⟩ := h
  refine xw_s kk fun G p e R s m args below meth c H locs cells slots ls Q hS hR hL kw => ?_
  obtain ⟨hexec, hbc, hmx, hrt, hlk0, hown, hnm, hts, htr, htab, ⟨hRf, hRl⟩, hw0⟩ := id hS
  refine W.objInit hexec hbc hown (hts _ hl) (hts _ hin) (hts _ hcd) rfl (hL.1.trans hmx.symm) rfl hdg (by rw [hRf]; exact hr.1) ?_ kw
  show 2 * 0 + ((S.map (xw_tv G)).map fun v => v.category).sum + 12 ≤ R.locals
  rw [xw_tv_sum, hRl]
  have := hr.2
  omega
end XA
end
section
/-! Throwing: a new exception, made and thrown. -/
section XT
variable {p : Program} {l : Launch} {e : Env} {R : Room} {s : State} {m : MethodId} {args : Array Value} {below : List Frame} {meth : Method} {c : Code} {T : State} {locs : List Loc} {cells slots : Nat}
/-- a method under way, told from where it is now -/
theorem xt_rb (X : Stand p l e R s m args below meth c T locs cells slots) (hc : cells ≤ R.cells) (hs : slots ≤ R.slots) :
    Stand p l e { frames := R.frames, cells := R.cells - cells, slots := R.slots - slots, locals := R.locals } (T.setFrames (.invoking m args :: below)) m args below meth c T [] 0 0 := by
  obtain ⟨g₀, hfr⟩ := X.frames_eq
  have hcur : T.cur < T.threads.size := State.cur_lt_of_frames hfr
  have hF : (T.setFrames (.invoking m args :: below)).frames = .invoking m args :: below := State.frames_setFrames _ hcur
  obtain ⟨t, ht, -⟩ := State.frames_cons hF
  have hm' : (T.setFrames (.invoking m args :: below)).vm.method? m = some meth := X.method'
  refine ⟨X.admits, X.cas, X.clock, hF, ?_, ?_, hm', X.code, X.here, X.tail, State.WarmedH.refl _, by rw [State.stackLimits_setFrames], by rw [State.stackBytes_setFrames], ?_⟩
  · have h := X.room
    have h1 := X.heapSize
    have h2 := X.used
    have h3 := X.book
    have hlu : (T.setFrames (.invoking m args :: below)).localsInUse = s.localsInUse := by
      rw [State.localsInUse_invoking hF hm' X.code, State.localsInUse_invoking X.frames X.method X.code]
    have h4 : (T.setFrames (.invoking m args :: below)).slotsTrue = true := h3
    have hlen : s.frames.length = (T.setFrames (.invoking m args :: below)).frames.length := by rw [hF, X.frames]
    simp only [State.hasRoom, Bool.and_eq_true, decide_eq_true_eq] at h ⊢
    obtain ⟨⟨⟨⟨a1, a2, a3, a4, a5, a6⟩, a7⟩, a8⟩, a9⟩ := h
    have hz : (T.setFrames (.invoking m args :: below)).heap.size = T.heap.size := rfl
    have hu : (T.setFrames (.invoking m args :: below)).slotsUsed = T.slotsUsed := rfl
    rw [hlu, ← hlen, State.stackLimits_setFrames, State.stackBytes_setFrames, X.limits, X.bytes, hz, hu]
    exact ⟨⟨⟨⟨a1, a2, a3, a4, a5, a6⟩, by omega⟩, by omega⟩, h4⟩
  · have h := X.hears
    have hmv : ∀ k, (T.setFrames (.invoking m args :: below)).vm.method? k = s.vm.method? k := fun k => X.warmed.alike.method? k
    have hcv : ∀ k, (T.setFrames (.invoking m args :: below)).code? k = s.code? k := fun k => by rw [State.code?_eq, State.code?_eq, hmv]
    unfold State.hears at h ⊢
    split at h
    · next => rw [hcv]; exact h
    · rfl
    · rfl
    · next => rw [hmv]; exact h
  · have h := (State.sameButNew.refl (T.setFrames (.invoking m args :: below)) ht).setFrames T.frames (State.cur_lt_of_frames hF)
    obtain ⟨t', ht', -⟩ := State.frames_cons hfr
    rw [State.setFrames_setFrames, State.setFrames_self ht'] at h
    exact h
end XT
section XU
variable {κ : Nat → Nat × Nat} {l : Launch} {M : xw_M} {pc pc1 pc2 pc3 pc4 : Nat} {L : List (Option Value)} {S : List Value} {n u : Nat} {σ : xs_S} {ρ : xs_R}
abbrev xt_X : String := "java/lang/IllegalStateException"
abbrev xt_up : List String := ["java/lang/RuntimeException", "java/lang/Exception"]
abbrev xt_z : List Cond := [.laysStatic Jvm.Bundle.tN "UNASSIGNED_STACK" Jvm.Bundle.steD, .laysStatic Jvm.Bundle.tN "SUPPRESSED_SENTINEL" Jvm.Bundle.listD, .isRef (.static Jvm.Bundle.tN "UNASSIGNED_STACK" Jvm.Bundle.steD), .isRef (.static Jvm.Bundle.tN "SUPPRESSED_SENTINEL" Jvm.Bundle.listD)]
theorem xt_zs {args : Array Value} {s : State} (h1 : xw_z Jvm.Bundle.tN "UNASSIGNED_STACK" Jvm.Bundle.steD s s.heap) (h2 : xw_z Jvm.Bundle.tN "SUPPRESSED_SENTINEL" Jvm.Bundle.listD s s.heap) : ∀ w ∈ xt_z, w.before args s = true := by
  intro w hw
  simp only [xt_z, List.mem_cons, List.not_mem_nil, or_false] at hw
  rcases hw with rfl | rfl | rfl | rfl
  · exact h1.lays
  · exact h2.lays
  · exact h1.isRef
  · exact h2.isRef
set_option maxHeartbeats 2000000 in
theorem xw_thr {idx ic : Nat} (h1 : xw_dec M.2.1 pc (.new idx) 3 pc1) (h2 : xw_dec M.2.1 pc1 .dup 1 pc2) (h3 : xw_dec M.2.1 pc2 (.invokespecial ic) 3 pc3) (h4 : xw_dec M.2.1 pc3 .athrow 1 pc4)
    (hcl : Cond.classLink M.1.cls idx xt_X ∈ xw_T) (hini : Cond.initialized xt_X ∈ xw_T) (hins : Cond.instantiable xt_X 6 ∈ xw_T) (hat : ∀ a ∈ Jvm.Bundle.ownAtoms0 M.1.cls ic xt_X xt_up, a ∈ xw_T ∨ a ∈ xt_z) (hh : M.2.2.2.2.1 = []) (hκ : 4 ≤ (κ n).1)
    (hr : 6 ≤ M.2.2.2.2.2.1 ∧ (S.map fun v => v.category).sum + 81 ≤ M.2.2.2.2.2.2) : xw_w κ l M pc L S (n, u, σ, ρ) (.inr n, (n + 1, u + 6, σ, ρ)) := by
  obtain ⟨hd1, rfl⟩ := h1
  obtain ⟨hd2, rfl⟩ := h2
  obtain ⟨hd3, rfl⟩ := h3
  obtain ⟨hd4, rfl⟩ := h4
  refine ⟨⟨Nat.le_succ _, Nat.le_add_right _ _⟩, fun G p e R s m args below meth c H locs cells slots ls hS hR hL hlo hc hs => ?_⟩
  intro T hT X0
  subst hT
  obtain ⟨hexec, hb, hmx, hrt, hlocks, hown, hnm, hts, htr, htab, ⟨hRf, hRl⟩, hw0⟩ := id hS
  have hc : cells + (n + 1 - n) ≤ R.cells := hc
  have hs : slots + (u + 6 - u) ≤ R.slots := hs
  have X := xt_rb X0 (by omega) (by omega)
  generalize hs1 : T.setFrames (.invoking m args :: below) = s1 at X
  have hvm1 : s1.vm = T.vm := by rw [← hs1]; rfl
  have hhp1 : s1.heap = T.heap := by rw [← hs1]; rfl
  have hW1 : s.WarmedH s1.vm := by rw [hvm1]; exact X0.warmed
  have hts1 : ∀ w ∈ xw_T, w.before args s1 = true := xw_Tmove hW1 hts
  have hR1 : xw_R κ G (n, u, σ, ρ) s1 T.heap := hR.moved hW1.alike
  have hown1 : s1.vm.findClass M.1.cls = some m.cls := by rw [hW1.alike.findClass]; exact hown
  have hz1 := hR1.2.2.2.1
  rw [← hhp1] at hz1
  have hat1 : ∀ a ∈ Jvm.Bundle.ownAtoms0 M.1.cls ic xt_X xt_up, a.before args s1 = true := fun a ha => by
    rcases hat a ha with h | h
    · exact hts1 a h
    · exact xt_zs hz1.1 hz1.2 a h
  have htr1 : e.platform.stackTraces = false := by
    have h5 : e.platform.stackTraces = l.stackTraces := by rw [X.admits.platform]
    rw [h5]; exact htr
  obtain ⟨vm₁, cX, kX, hfX, hkX, -, -, X₁, st1⟩ := X.newCold hexec (own := M.1.cls) (C := xt_X) (index := idx) (n := 6) hown1 (hts1 _ hcl) (hts1 _ hins) (hts1 _ hini)
    (g := F0 m pc ls (S.map (xw_tv G))) rfl (by rw [hb]; exact hd1) (show 0 + 1 ≤ R.cells - cells by omega) (show 0 + 6 ≤ R.slots - slots by omega)
  generalize hT1 : (T.setVm vm₁).pushCell { cls := cX, slots := kX.instanceTypes.map defaultValue, vm := .none } = T1 at X₁ st1
  have hcellA : T1.heap[T.heap.size]? = some (freshCell cX kX) := by rw [← hT1]; exact State.heap_pushCell_size _ _
  have hout : ∀ x ∈ c.exceptionTable.toList, covers x (pc + 3 + 1 + 3) = false := by
    intro x hx
    rw [hh] at htab
    have h5 : c.exceptionTable.toList = [] := List.map_eq_nil_iff.mp htab
    rw [h5] at hx
    cases hx
  have hwt : 2 * (F0 m (pc + 3 + 1) ls (.ref T.heap.size :: .ref T.heap.size :: S.map (xw_tv G))).monitorRoom + ((Value.ref T.heap.size :: S.map (xw_tv G)).map fun v => v.category).sum + (13 * (xt_up.length + 1) + 41) ≤ R.locals := by
    show 2 * 0 + ((Value.ref T.heap.size :: S.map (xw_tv G)).map fun v => v.category).sum + (13 * (2 + 1) + 41) ≤ R.locals
    rw [List.map_cons, List.sum_cons, xw_tv_sum, hRl]
    have h6 := hr.2
    show 2 * 0 + (1 + (S.map fun v => v.category).sum) + (13 * (2 + 1) + 41) ≤ _
    omega
  obtain ⟨U, hsteps, hrun, hend, hWU, hsame, ce, hce, K⟩ := X₁.ctorThrow0 hexec htr1 (own := M.1.cls) (cls := xt_X) (names := xt_up) (ic := ic) hown1 (by decide +kernel) (by decide +kernel) hat1 (fun x hx => by cases hx) hfX hkX hcellA
    (by rw [hhp1]; exact Nat.le_refl _) (g := F0 m (pc + 3 + 1) ls (.ref T.heap.size :: .ref T.heap.size :: S.map (xw_tv G))) rfl (hL.1.trans hmx.symm) rfl rfl (rest := S.map (xw_tv G)) rfl
    (by rw [hb]; exact hd3) (by rw [hb]; exact hd4) hout (show xt_up.length + 3 < R.frames by rw [hRf]; have := hr.1; simp only [xt_up, List.length_cons, List.length_nil]; omega) hwt hlocks
  have hsz : U.heap.size = T.heap.size + 1 := by
    have h5 : U.heap.size ≤ s1.heap.size + (0 + 1) := hsame.2.2.1
    have h6 := (Array.getElem?_eq_some_iff.mp hce).1
    rw [hhp1] at h5
    omega
  have hold : ∀ q, q < T.heap.size → U.heap[q]? = T.heap[q]? := by
    intro q hq
    have h5 : s1.heap[q]? = some (T.heap[q]) := by rw [hhp1]; exact Array.getElem?_eq_getElem hq
    have h6 : ({ U with vm := s1.vm } : State).heap[q]? = some (T.heap[q]) := State.sameButNew.old_cell hsame h5
    rw [Array.getElem?_eq_getElem hq]
    exact h6
  have hnx : T.heap.size = xw_ad G n := hR.next
  have hRU : xw_R κ G (n + 1, u + 6, σ, ρ) s U.heap := by
    refine hR.new hsz hold ?_ (fun _ _ _ => rfl) (fun _ _ _ => rfl)
    refine ⟨fun z => absurd hκ (by omega), fun z => absurd hκ (by omega), fun z => absurd hκ (by omega), fun z => absurd hκ (by omega), fun _ => ⟨ce, by rw [← hnx]; exact hce, ?_, K.vm⟩⟩
    have h5 := K.cls
    rw [hW1.alike.findClass] at h5
    exact Option.some.inj (h5.symm.trans hR.2.2.2.2.2)
  have hWs : s.WarmedH U.vm := by
    have h5 : s1.WarmedH U.vm := hWU
    exact State.WarmedH.trans hW1 h5
  refine ⟨U, st1 _ ?_, .threw (xw_ad G n), locs, hrun, by rw [← hnx]; exact hend, rfl, hRU, hWs, ?_, hlo⟩
  · show Steps p.tables e below (T1.setTop (F0 m (pc + 3) ls (.ref T.heap.size :: S.map (xw_tv G)))) U
    have hx1 : At T1 m c below := X₁.here
    have hdd : decode c.code (pc + 3) = .ok (.dup, 1) := by rw [hb]; exact hd2
    jvm_step hx1 [hx1.top, hexec, hdd, Value.category]
    exact hsteps
  · obtain ⟨g₀, hfr⟩ := X0.frames_eq
    obtain ⟨t', ht', -⟩ := State.frames_cons hfr
    have hcur : T.cur < T.threads.size := State.cur_lt_of_frames hfr
    have hA : (T.setVm s.vm).sameButNew ((T.setVm s.vm).setFrames (.invoking m args :: below)) [] 0 0 := (State.sameButNew.refl (T.setVm s.vm) (x := t') ht').setFrames _ hcur
    have hB := hsame.setVm s.vm
    rw [← hs1] at hB
    have hC := X0.same.trans (hA.trans hB)
    show s.sameButNew _ locs (cells + (n + 1 - n)) (slots + (u + 6 - u))
    have e1 : cells + (n + 1 - n) = cells + (0 + (0 + 1)) := by omega
    have e2 : slots + (u + 6 - u) = slots + (0 + (0 + 6)) := by omega
    rw [e1, e2]
    have e3 : locs ++ ([] ++ []) = locs := by simp
    rw [e3] at hC
    exact hC
end XU
end
section
/-! One instruction, a row: locals, stack, numbers, branches. -/
def xl_l {α β : Type} (x : α) (f : α → β) : β := f x
def xo_b : Option Value → Bool
  | none => true
  | some v => v.category == 1
theorem xo_1 {o : Option Value} (h : xo_b o = true) : ∀ u, o = some u → u.category = 1 := by
  intro u hu
  subst hu
  simpa [xo_b] using h
theorem xo_set {nL : Nat} {G : xw_G} {L : List (Option Value)} {i : Nat} {v : Value} {ls' : Array Slot} (hi : i < L.length) (hc : ∀ j u, j + 1 = i → L[j]? = some (some u) → u.category = 1)
    (h : lv_has ls' nL ((i, xw_tv G v) :: ((xw_la 0 L).map fun q => (q.1, xw_tv G q.2)).filter (fun q => !(q.1 == i) && !(q.1 + 1 == i && q.2.category == 2)))) : xw_L nL G (L.set i (some v)) ls' := by
  refine xw_L.sub h fun j u hj => ?_
  by_cases hji : j = i
  · subst hji
    rw [List.getElem?_set_self hi] at hj
    have e : v = u := by simpa using hj
    rw [e]
    exact List.mem_cons_self
  · rw [List.getElem?_set_ne (Ne.symm hji)] at hj
    refine List.mem_cons_of_mem _ (List.mem_filter.mpr ⟨List.mem_map.mpr ⟨(j, u), (xw_la_mem L 0 (j, u)).mpr ⟨j, by simp, hj⟩, rfl⟩, ?_⟩)
    have h1 : (j == i) = false := by simp [hji]
    by_cases h2 : j + 1 = i
    · have h3 := hc j u h2 hj
      simp [hji, xw_tv_cat, h3]
    · simp [hji, h2]
theorem xo_set2 {nL : Nat} {G : xw_G} {L : List (Option Value)} {i : Nat} {v : Value} {ls' : Array Slot} (hi : i + 1 < L.length) (hc : ∀ j u, j + 1 = i → L[j]? = some (some u) → u.category = 1)
    (h : lv_has ls' nL ((i, xw_tv G v) :: ((xw_la 0 L).map fun q => (q.1, xw_tv G q.2)).filter (fun q => !(q.1 == i) && (!(q.1 == i + 1) && !(q.1 + 1 == i && q.2.category == 2))))) : xw_L nL G ((L.set i (some v)).set (i + 1) none) ls' := by
  refine xw_L.sub h fun j u hj => ?_
  by_cases hj2 : j = i + 1
  · subst hj2
    rw [List.getElem?_set_self (by simpa using hi)] at hj
    simp at hj
  · rw [List.getElem?_set_ne (Ne.symm hj2)] at hj
    by_cases hji : j = i
    · subst hji
      rw [List.getElem?_set_self (by omega)] at hj
      have e : v = u := by simpa using hj
      rw [e]
      exact List.mem_cons_self
    · rw [List.getElem?_set_ne (Ne.symm hji)] at hj
      refine List.mem_cons_of_mem _ (List.mem_filter.mpr ⟨List.mem_map.mpr ⟨(j, u), (xw_la_mem L 0 (j, u)).mpr ⟨j, by simp, hj⟩, rfl⟩, ?_⟩)
      by_cases h2 : j + 1 = i
      · have h3 := hc j u h2 hj
        simp [hji, hj2, xw_tv_cat, h3]
      · simp [hji, hj2, h2]
section XI
variable {κ : Nat → Nat × Nat} {l : Launch} {M : xw_M} {pc pc' : Nat} {L : List (Option Value)} {S : List Value} {w : xw_W} {E : xw_O × xw_W}
theorem xw_istoreG {i : Nat} {x : Int32} {ins : Instr} {len : Nat} (h : xw_dec M.2.1 pc ins len pc') (hins : (∃ k : Fin 4, (k : Nat) = i ∧ ins = .istore_n k ∧ len = 1) ∨ (ins = .istore i ∧ len = 2)) (hn : i < M.2.2.1) (hi : i < L.length) (hc : ∀ j u, j + 1 = i → L[j]? = some (some u) → u.category = 1)
    (k : xw_w κ l M pc' (L.set i (some (.int x))) S w E) : xw_w κ l M pc L (.int x :: S) w E := by
  obtain ⟨hdg, rfl⟩ := h
  refine ⟨k.1, fun G p e R s m args below meth c H locs cells slots ls hS hR hL hlo hcc hs => ?_⟩
  rcases hins with ⟨kk, hk, rfl, rfl⟩ | ⟨rfl, rfl⟩
  · exact lv_istore_n hS.1 hS.2.1 hdg hk hL hn rfl fun ls' h' => k.2 G p e R s m args below meth c H locs cells slots ls' hS hR (xo_set (v := .int x) hi hc h') hlo hcc hs
  · exact lv_istore hS.1 hS.2.1 hdg hL hn rfl fun ls' h' => k.2 G p e R s m args below meth c H locs cells slots ls' hS hR (xo_set (v := .int x) hi hc h') hlo hcc hs
theorem xw_astoreG {i : Nat} {x : Nat} {ins : Instr} {len : Nat} (h : xw_dec M.2.1 pc ins len pc') (hins : (∃ k : Fin 4, (k : Nat) = i ∧ ins = .astore_n k ∧ len = 1) ∨ (ins = .astore i ∧ len = 2)) (hn : i < M.2.2.1) (hi : i < L.length) (hc : ∀ j u, j + 1 = i → L[j]? = some (some u) → u.category = 1)
    (k : xw_w κ l M pc' (L.set i (some (.ref x))) S w E) : xw_w κ l M pc L (.ref x :: S) w E := by
  obtain ⟨hdg, rfl⟩ := h
  refine ⟨k.1, fun G p e R s m args below meth c H locs cells slots ls hS hR hL hlo hcc hs => ?_⟩
  rcases hins with ⟨kk, hk, rfl, rfl⟩ | ⟨rfl, rfl⟩
  · exact lv_astore_n hS.1 hS.2.1 hdg hk hL hn rfl fun ls' h' => k.2 G p e R s m args below meth c H locs cells slots ls' hS hR (xo_set (v := .ref x) hi hc h') hlo hcc hs
  · exact lv_astore hS.1 hS.2.1 hdg hL hn rfl fun ls' h' => k.2 G p e R s m args below meth c H locs cells slots ls' hS hR (xo_set (v := .ref x) hi hc h') hlo hcc hs
theorem xw_lstoreG {i : Nat} {x : Int64} {kk : Fin 4} (h : xw_dec M.2.1 pc (.lstore_n kk) 1 pc') (hk : (kk : Nat) = i) (hn : i + 1 < M.2.2.1) (hi : i + 1 < L.length) (hc : ∀ j u, j + 1 = i → L[j]? = some (some u) → u.category = 1)
    (k : xw_w κ l M pc' ((L.set i (some (.long x))).set (i + 1) none) S w E) : xw_w κ l M pc L (.long x :: S) w E := by
  obtain ⟨hdg, rfl⟩ := h
  refine ⟨k.1, fun G p e R s m args below meth c H locs cells slots ls hS hR hL hlo hcc hs => ?_⟩
  exact lv_lstore_n hS.1 hS.2.1 hdg hk hL hn rfl fun ls' h' => k.2 G p e R s m args below meth c H locs cells slots ls' hS hR (xo_set2 (v := .long x) hi hc h') hlo hcc hs
theorem xw_iincG {i : Nat} {n : Int} {x v : Int32} (h : xw_dec M.2.1 pc (.iinc i n) 3 pc') (hv : x + Int32.ofInt n = v) (hn : i < M.2.2.1) (hi : i < L.length) (hx : L[i]? = some (some (.int x))) (hc : ∀ j u, j + 1 = i → L[j]? = some (some u) → u.category = 1)
    (k : xw_w κ l M pc' (L.set i (some (.int v))) S w E) : xw_w κ l M pc L S w E := by
  obtain ⟨hdg, rfl⟩ := h
  refine ⟨k.1, fun G p e R s m args below meth c H locs cells slots ls hS hR hL hlo hcc hs => ?_⟩
  obtain ⟨kk, hkk⟩ := List.getElem?_of_mem (l := (xw_la 0 L).map fun q => (q.1, xw_tv G q.2)) (a := (i, .int x)) (List.mem_map.mpr ⟨(i, .int x), (xw_la_mem L 0 (i, .int x)).mpr ⟨i, by simp, hx⟩, rfl⟩)
  exact lv_iinc hS.1 hS.2.1 hdg hL hkk hv hn rfl fun ls' h' => k.2 G p e R s m args below meth c H locs cells slots ls' hS hR (xo_set (v := .int v) hi hc h') hlo hcc hs
theorem xo_c0 : ∀ j u, j + 1 = 0 → L[j]? = some (some u) → Value.category u = 1 := fun j u h => by omega
theorem xw_iload0 {x : Int32} {t : List (Option Value)} (h : xw_dec M.2.1 pc (.iload_n 0) 1 pc') (k : xw_w κ l M pc' (some (.int x) :: t) (.int x :: S) w E) : xw_w κ l M pc (some (.int x) :: t) S w E := by
  obtain ⟨hdg, rfl⟩ := h
  exact xw_s k fun G p e R s m args below meth c H locs cells slots ls Q hS hR hL kw => lv_iload_n hS.1 hS.2.1 hdg rfl (hL.get (i := 0) (v := .int x) rfl) kw
theorem xw_istore0 {x : Int32} {d : Option Value} {t : List (Option Value)} (h : xw_dec M.2.1 pc (.istore_n 0) 1 pc') (hn : 0 < M.2.2.1) (k : xw_w κ l M pc' (some (.int x) :: t) S w E) : xw_w κ l M pc (d :: t) (.int x :: S) w E :=
  xw_istoreG (i := 0) h (Or.inl ⟨0, rfl, rfl, rfl⟩) hn (by simp) xo_c0 k
theorem xw_iinc0 {n : Int} {x v : Int32} {t : List (Option Value)} (h : xw_dec M.2.1 pc (.iinc 0 n) 3 pc') (hv : x + Int32.ofInt n = v) (hn : 0 < M.2.2.1) (k : xw_w κ l M pc' (some (.int v) :: t) S w E) : xw_w κ l M pc (some (.int x) :: t) S w E :=
  xw_iincG (i := 0) h hv hn (by simp) rfl xo_c0 k
theorem xw_aload0 {x : Nat} {t : List (Option Value)} (h : xw_dec M.2.1 pc (.aload_n 0) 1 pc') (k : xw_w κ l M pc' (some (.ref x) :: t) (.ref x :: S) w E) : xw_w κ l M pc (some (.ref x) :: t) S w E := by
  obtain ⟨hdg, rfl⟩ := h
  exact xw_s k fun G p e R s m args below meth c H locs cells slots ls Q hS hR hL kw => lv_aload_n hS.1 hS.2.1 hdg rfl (hL.get (i := 0) (v := .ref x) rfl) kw
theorem xw_astore0 {x : Nat} {d : Option Value} {t : List (Option Value)} (h : xw_dec M.2.1 pc (.astore_n 0) 1 pc') (hn : 0 < M.2.2.1) (k : xw_w κ l M pc' (some (.ref x) :: t) S w E) : xw_w κ l M pc (d :: t) (.ref x :: S) w E :=
  xw_astoreG (i := 0) h (Or.inl ⟨0, rfl, rfl, rfl⟩) hn (by simp) xo_c0 k
theorem xw_lload0 {x : Int64} {t : List (Option Value)} (h : xw_dec M.2.1 pc (.lload_n 0) 1 pc') (k : xw_w κ l M pc' (some (.long x) :: t) (.long x :: S) w E) : xw_w κ l M pc (some (.long x) :: t) S w E := by
  obtain ⟨hdg, rfl⟩ := h
  exact xw_s k fun G p e R s m args below meth c H locs cells slots ls Q hS hR hL kw => lv_lload_n hS.1 hS.2.1 hdg rfl (hL.get (i := 0) (v := .long x) rfl) kw
theorem xw_lstore0 {x : Int64} {d d2 : Option Value} {t : List (Option Value)} (h : xw_dec M.2.1 pc (.lstore_n 0) 1 pc') (hn : 1 < M.2.2.1) (k : xw_w κ l M pc' (some (.long x) :: none :: t) S w E) : xw_w κ l M pc (d :: d2 :: t) (.long x :: S) w E :=
  xw_lstoreG (i := 0) h rfl hn (by simp) xo_c0 k
theorem xw_iload1 {x : Int32} {o0 : Option Value} {t : List (Option Value)} (h : xw_dec M.2.1 pc (.iload_n 1) 1 pc') (k : xw_w κ l M pc' (o0 :: some (.int x) :: t) (.int x :: S) w E) : xw_w κ l M pc (o0 :: some (.int x) :: t) S w E := by
  obtain ⟨hdg, rfl⟩ := h
  exact xw_s k fun G p e R s m args below meth c H locs cells slots ls Q hS hR hL kw => lv_iload_n hS.1 hS.2.1 hdg rfl (hL.get (i := 1) (v := .int x) rfl) kw
theorem xw_istore1 {x : Int32} {o0 : Option Value} {d : Option Value} {t : List (Option Value)} (h : xw_dec M.2.1 pc (.istore_n 1) 1 pc') (hn : 1 < M.2.2.1) (ho : xo_b o0 = true) (k : xw_w κ l M pc' (o0 :: some (.int x) :: t) S w E) : xw_w κ l M pc (o0 :: d :: t) (.int x :: S) w E :=
  xw_istoreG (i := 1) h (Or.inl ⟨1, rfl, rfl, rfl⟩) hn (by simp) (fun j u hj hu => xo_1 ho u (by
    have e : j = 0 := by omega
    subst e
    simpa using hu)) k
theorem xw_iinc1 {n : Int} {x v : Int32} {o0 : Option Value} {t : List (Option Value)} (h : xw_dec M.2.1 pc (.iinc 1 n) 3 pc') (hv : x + Int32.ofInt n = v) (hn : 1 < M.2.2.1) (ho : xo_b o0 = true) (k : xw_w κ l M pc' (o0 :: some (.int v) :: t) S w E) : xw_w κ l M pc (o0 :: some (.int x) :: t) S w E :=
  xw_iincG (i := 1) h hv hn (by simp) rfl (fun j u hj hu => xo_1 ho u (by
    have e : j = 0 := by omega
    subst e
    simpa using hu)) k
theorem xw_aload1 {x : Nat} {o0 : Option Value} {t : List (Option Value)} (h : xw_dec M.2.1 pc (.aload_n 1) 1 pc') (k : xw_w κ l M pc' (o0 :: some (.ref x) :: t) (.ref x :: S) w E) : xw_w κ l M pc (o0 :: some (.ref x) :: t) S w E := by
  obtain ⟨hdg, rfl⟩ := h
  exact xw_s k fun G p e R s m args below meth c H locs cells slots ls Q hS hR hL kw => lv_aload_n hS.1 hS.2.1 hdg rfl (hL.get (i := 1) (v := .ref x) rfl) kw
theorem xw_astore1 {x : Nat} {o0 : Option Value} {d : Option Value} {t : List (Option Value)} (h : xw_dec M.2.1 pc (.astore_n 1) 1 pc') (hn : 1 < M.2.2.1) (ho : xo_b o0 = true) (k : xw_w κ l M pc' (o0 :: some (.ref x) :: t) S w E) : xw_w κ l M pc (o0 :: d :: t) (.ref x :: S) w E :=
  xw_astoreG (i := 1) h (Or.inl ⟨1, rfl, rfl, rfl⟩) hn (by simp) (fun j u hj hu => xo_1 ho u (by
    have e : j = 0 := by omega
    subst e
    simpa using hu)) k
theorem xw_lload1 {x : Int64} {o0 : Option Value} {t : List (Option Value)} (h : xw_dec M.2.1 pc (.lload_n 1) 1 pc') (k : xw_w κ l M pc' (o0 :: some (.long x) :: t) (.long x :: S) w E) : xw_w κ l M pc (o0 :: some (.long x) :: t) S w E := by
  obtain ⟨hdg, rfl⟩ := h
  exact xw_s k fun G p e R s m args below meth c H locs cells slots ls Q hS hR hL kw => lv_lload_n hS.1 hS.2.1 hdg rfl (hL.get (i := 1) (v := .long x) rfl) kw
theorem xw_lstore1 {x : Int64} {o0 : Option Value} {d d2 : Option Value} {t : List (Option Value)} (h : xw_dec M.2.1 pc (.lstore_n 1) 1 pc') (hn : 2 < M.2.2.1) (ho : xo_b o0 = true) (k : xw_w κ l M pc' (o0 :: some (.long x) :: none :: t) S w E) : xw_w κ l M pc (o0 :: d :: d2 :: t) (.long x :: S) w E :=
  xw_lstoreG (i := 1) h rfl hn (by simp) (fun j u hj hu => xo_1 ho u (by
    have e : j = 0 := by omega
    subst e
    simpa using hu)) k
theorem xw_iload2 {x : Int32} {o0 o1 : Option Value} {t : List (Option Value)} (h : xw_dec M.2.1 pc (.iload_n 2) 1 pc') (k : xw_w κ l M pc' (o0 :: o1 :: some (.int x) :: t) (.int x :: S) w E) : xw_w κ l M pc (o0 :: o1 :: some (.int x) :: t) S w E := by
  obtain ⟨hdg, rfl⟩ := h
  exact xw_s k fun G p e R s m args below meth c H locs cells slots ls Q hS hR hL kw => lv_iload_n hS.1 hS.2.1 hdg rfl (hL.get (i := 2) (v := .int x) rfl) kw
theorem xw_istore2 {x : Int32} {o0 o1 : Option Value} {d : Option Value} {t : List (Option Value)} (h : xw_dec M.2.1 pc (.istore_n 2) 1 pc') (hn : 2 < M.2.2.1) (ho : xo_b o1 = true) (k : xw_w κ l M pc' (o0 :: o1 :: some (.int x) :: t) S w E) : xw_w κ l M pc (o0 :: o1 :: d :: t) (.int x :: S) w E :=
  xw_istoreG (i := 2) h (Or.inl ⟨2, rfl, rfl, rfl⟩) hn (by simp) (fun j u hj hu => xo_1 ho u (by
    have e : j = 1 := by omega
    subst e
    simpa using hu)) k
theorem xw_iinc2 {n : Int} {x v : Int32} {o0 o1 : Option Value} {t : List (Option Value)} (h : xw_dec M.2.1 pc (.iinc 2 n) 3 pc') (hv : x + Int32.ofInt n = v) (hn : 2 < M.2.2.1) (ho : xo_b o1 = true) (k : xw_w κ l M pc' (o0 :: o1 :: some (.int v) :: t) S w E) : xw_w κ l M pc (o0 :: o1 :: some (.int x) :: t) S w E :=
  xw_iincG (i := 2) h hv hn (by simp) rfl (fun j u hj hu => xo_1 ho u (by
    have e : j = 1 := by omega
    subst e
    simpa using hu)) k
theorem xw_aload2 {x : Nat} {o0 o1 : Option Value} {t : List (Option Value)} (h : xw_dec M.2.1 pc (.aload_n 2) 1 pc') (k : xw_w κ l M pc' (o0 :: o1 :: some (.ref x) :: t) (.ref x :: S) w E) : xw_w κ l M pc (o0 :: o1 :: some (.ref x) :: t) S w E := by
  obtain ⟨hdg, rfl⟩ := h
  exact xw_s k fun G p e R s m args below meth c H locs cells slots ls Q hS hR hL kw => lv_aload_n hS.1 hS.2.1 hdg rfl (hL.get (i := 2) (v := .ref x) rfl) kw
theorem xw_astore2 {x : Nat} {o0 o1 : Option Value} {d : Option Value} {t : List (Option Value)} (h : xw_dec M.2.1 pc (.astore_n 2) 1 pc') (hn : 2 < M.2.2.1) (ho : xo_b o1 = true) (k : xw_w κ l M pc' (o0 :: o1 :: some (.ref x) :: t) S w E) : xw_w κ l M pc (o0 :: o1 :: d :: t) (.ref x :: S) w E :=
  xw_astoreG (i := 2) h (Or.inl ⟨2, rfl, rfl, rfl⟩) hn (by simp) (fun j u hj hu => xo_1 ho u (by
    have e : j = 1 := by omega
    subst e
    simpa using hu)) k
theorem xw_lload2 {x : Int64} {o0 o1 : Option Value} {t : List (Option Value)} (h : xw_dec M.2.1 pc (.lload_n 2) 1 pc') (k : xw_w κ l M pc' (o0 :: o1 :: some (.long x) :: t) (.long x :: S) w E) : xw_w κ l M pc (o0 :: o1 :: some (.long x) :: t) S w E := by
  obtain ⟨hdg, rfl⟩ := h
  exact xw_s k fun G p e R s m args below meth c H locs cells slots ls Q hS hR hL kw => lv_lload_n hS.1 hS.2.1 hdg rfl (hL.get (i := 2) (v := .long x) rfl) kw
theorem xw_lstore2 {x : Int64} {o0 o1 : Option Value} {d d2 : Option Value} {t : List (Option Value)} (h : xw_dec M.2.1 pc (.lstore_n 2) 1 pc') (hn : 3 < M.2.2.1) (ho : xo_b o1 = true) (k : xw_w κ l M pc' (o0 :: o1 :: some (.long x) :: none :: t) S w E) : xw_w κ l M pc (o0 :: o1 :: d :: d2 :: t) (.long x :: S) w E :=
  xw_lstoreG (i := 2) h rfl hn (by simp) (fun j u hj hu => xo_1 ho u (by
    have e : j = 1 := by omega
    subst e
    simpa using hu)) k
theorem xw_iload3 {x : Int32} {o0 o1 o2 : Option Value} {t : List (Option Value)} (h : xw_dec M.2.1 pc (.iload_n 3) 1 pc') (k : xw_w κ l M pc' (o0 :: o1 :: o2 :: some (.int x) :: t) (.int x :: S) w E) : xw_w κ l M pc (o0 :: o1 :: o2 :: some (.int x) :: t) S w E := by
  obtain ⟨hdg, rfl⟩ := h
  exact xw_s k fun G p e R s m args below meth c H locs cells slots ls Q hS hR hL kw => lv_iload_n hS.1 hS.2.1 hdg rfl (hL.get (i := 3) (v := .int x) rfl) kw
theorem xw_istore3 {x : Int32} {o0 o1 o2 : Option Value} {d : Option Value} {t : List (Option Value)} (h : xw_dec M.2.1 pc (.istore_n 3) 1 pc') (hn : 3 < M.2.2.1) (ho : xo_b o2 = true) (k : xw_w κ l M pc' (o0 :: o1 :: o2 :: some (.int x) :: t) S w E) : xw_w κ l M pc (o0 :: o1 :: o2 :: d :: t) (.int x :: S) w E :=
  xw_istoreG (i := 3) h (Or.inl ⟨3, rfl, rfl, rfl⟩) hn (by simp) (fun j u hj hu => xo_1 ho u (by
    have e : j = 2 := by omega
    subst e
    simpa using hu)) k
theorem xw_iinc3 {n : Int} {x v : Int32} {o0 o1 o2 : Option Value} {t : List (Option Value)} (h : xw_dec M.2.1 pc (.iinc 3 n) 3 pc') (hv : x + Int32.ofInt n = v) (hn : 3 < M.2.2.1) (ho : xo_b o2 = true) (k : xw_w κ l M pc' (o0 :: o1 :: o2 :: some (.int v) :: t) S w E) : xw_w κ l M pc (o0 :: o1 :: o2 :: some (.int x) :: t) S w E :=
  xw_iincG (i := 3) h hv hn (by simp) rfl (fun j u hj hu => xo_1 ho u (by
    have e : j = 2 := by omega
    subst e
    simpa using hu)) k
theorem xw_aload3 {x : Nat} {o0 o1 o2 : Option Value} {t : List (Option Value)} (h : xw_dec M.2.1 pc (.aload_n 3) 1 pc') (k : xw_w κ l M pc' (o0 :: o1 :: o2 :: some (.ref x) :: t) (.ref x :: S) w E) : xw_w κ l M pc (o0 :: o1 :: o2 :: some (.ref x) :: t) S w E := by
  obtain ⟨hdg, rfl⟩ := h
  exact xw_s k fun G p e R s m args below meth c H locs cells slots ls Q hS hR hL kw => lv_aload_n hS.1 hS.2.1 hdg rfl (hL.get (i := 3) (v := .ref x) rfl) kw
theorem xw_astore3 {x : Nat} {o0 o1 o2 : Option Value} {d : Option Value} {t : List (Option Value)} (h : xw_dec M.2.1 pc (.astore_n 3) 1 pc') (hn : 3 < M.2.2.1) (ho : xo_b o2 = true) (k : xw_w κ l M pc' (o0 :: o1 :: o2 :: some (.ref x) :: t) S w E) : xw_w κ l M pc (o0 :: o1 :: o2 :: d :: t) (.ref x :: S) w E :=
  xw_astoreG (i := 3) h (Or.inl ⟨3, rfl, rfl, rfl⟩) hn (by simp) (fun j u hj hu => xo_1 ho u (by
    have e : j = 2 := by omega
    subst e
    simpa using hu)) k
theorem xw_lload3 {x : Int64} {o0 o1 o2 : Option Value} {t : List (Option Value)} (h : xw_dec M.2.1 pc (.lload_n 3) 1 pc') (k : xw_w κ l M pc' (o0 :: o1 :: o2 :: some (.long x) :: t) (.long x :: S) w E) : xw_w κ l M pc (o0 :: o1 :: o2 :: some (.long x) :: t) S w E := by
  obtain ⟨hdg, rfl⟩ := h
  exact xw_s k fun G p e R s m args below meth c H locs cells slots ls Q hS hR hL kw => lv_lload_n hS.1 hS.2.1 hdg rfl (hL.get (i := 3) (v := .long x) rfl) kw
theorem xw_lstore3 {x : Int64} {o0 o1 o2 : Option Value} {d d2 : Option Value} {t : List (Option Value)} (h : xw_dec M.2.1 pc (.lstore_n 3) 1 pc') (hn : 4 < M.2.2.1) (ho : xo_b o2 = true) (k : xw_w κ l M pc' (o0 :: o1 :: o2 :: some (.long x) :: none :: t) S w E) : xw_w κ l M pc (o0 :: o1 :: o2 :: d :: d2 :: t) (.long x :: S) w E :=
  xw_lstoreG (i := 3) h rfl hn (by simp) (fun j u hj hu => xo_1 ho u (by
    have e : j = 2 := by omega
    subst e
    simpa using hu)) k
theorem xw_iload4 {x : Int32} {o0 o1 o2 o3 : Option Value} {t : List (Option Value)} (h : xw_dec M.2.1 pc (.iload 4) 2 pc') (k : xw_w κ l M pc' (o0 :: o1 :: o2 :: o3 :: some (.int x) :: t) (.int x :: S) w E) : xw_w κ l M pc (o0 :: o1 :: o2 :: o3 :: some (.int x) :: t) S w E := by
  obtain ⟨hdg, rfl⟩ := h
  exact xw_s k fun G p e R s m args below meth c H locs cells slots ls Q hS hR hL kw => lv_iload hS.1 hS.2.1 hdg (hL.get (i := 4) (v := .int x) rfl) kw
theorem xw_istore4 {x : Int32} {o0 o1 o2 o3 : Option Value} {d : Option Value} {t : List (Option Value)} (h : xw_dec M.2.1 pc (.istore 4) 2 pc') (hn : 4 < M.2.2.1) (ho : xo_b o3 = true) (k : xw_w κ l M pc' (o0 :: o1 :: o2 :: o3 :: some (.int x) :: t) S w E) : xw_w κ l M pc (o0 :: o1 :: o2 :: o3 :: d :: t) (.int x :: S) w E :=
  xw_istoreG (i := 4) h (Or.inr ⟨rfl, rfl⟩) hn (by simp) (fun j u hj hu => xo_1 ho u (by
    have e : j = 3 := by omega
    subst e
    simpa using hu)) k
theorem xw_iinc4 {n : Int} {x v : Int32} {o0 o1 o2 o3 : Option Value} {t : List (Option Value)} (h : xw_dec M.2.1 pc (.iinc 4 n) 3 pc') (hv : x + Int32.ofInt n = v) (hn : 4 < M.2.2.1) (ho : xo_b o3 = true) (k : xw_w κ l M pc' (o0 :: o1 :: o2 :: o3 :: some (.int v) :: t) S w E) : xw_w κ l M pc (o0 :: o1 :: o2 :: o3 :: some (.int x) :: t) S w E :=
  xw_iincG (i := 4) h hv hn (by simp) rfl (fun j u hj hu => xo_1 ho u (by
    have e : j = 3 := by omega
    subst e
    simpa using hu)) k
theorem xw_aload4 {x : Nat} {o0 o1 o2 o3 : Option Value} {t : List (Option Value)} (h : xw_dec M.2.1 pc (.aload 4) 2 pc') (k : xw_w κ l M pc' (o0 :: o1 :: o2 :: o3 :: some (.ref x) :: t) (.ref x :: S) w E) : xw_w κ l M pc (o0 :: o1 :: o2 :: o3 :: some (.ref x) :: t) S w E := by
  obtain ⟨hdg, rfl⟩ := h
  exact xw_s k fun G p e R s m args below meth c H locs cells slots ls Q hS hR hL kw => lv_aload hS.1 hS.2.1 hdg (hL.get (i := 4) (v := .ref x) rfl) kw
theorem xw_astore4 {x : Nat} {o0 o1 o2 o3 : Option Value} {d : Option Value} {t : List (Option Value)} (h : xw_dec M.2.1 pc (.astore 4) 2 pc') (hn : 4 < M.2.2.1) (ho : xo_b o3 = true) (k : xw_w κ l M pc' (o0 :: o1 :: o2 :: o3 :: some (.ref x) :: t) S w E) : xw_w κ l M pc (o0 :: o1 :: o2 :: o3 :: d :: t) (.ref x :: S) w E :=
  xw_astoreG (i := 4) h (Or.inr ⟨rfl, rfl⟩) hn (by simp) (fun j u hj hu => xo_1 ho u (by
    have e : j = 3 := by omega
    subst e
    simpa using hu)) k
theorem xw_iload5 {x : Int32} {o0 o1 o2 o3 o4 : Option Value} {t : List (Option Value)} (h : xw_dec M.2.1 pc (.iload 5) 2 pc') (k : xw_w κ l M pc' (o0 :: o1 :: o2 :: o3 :: o4 :: some (.int x) :: t) (.int x :: S) w E) : xw_w κ l M pc (o0 :: o1 :: o2 :: o3 :: o4 :: some (.int x) :: t) S w E := by
  obtain ⟨hdg, rfl⟩ := h
  exact xw_s k fun G p e R s m args below meth c H locs cells slots ls Q hS hR hL kw => lv_iload hS.1 hS.2.1 hdg (hL.get (i := 5) (v := .int x) rfl) kw
theorem xw_istore5 {x : Int32} {o0 o1 o2 o3 o4 : Option Value} {d : Option Value} {t : List (Option Value)} (h : xw_dec M.2.1 pc (.istore 5) 2 pc') (hn : 5 < M.2.2.1) (ho : xo_b o4 = true) (k : xw_w κ l M pc' (o0 :: o1 :: o2 :: o3 :: o4 :: some (.int x) :: t) S w E) : xw_w κ l M pc (o0 :: o1 :: o2 :: o3 :: o4 :: d :: t) (.int x :: S) w E :=
  xw_istoreG (i := 5) h (Or.inr ⟨rfl, rfl⟩) hn (by simp) (fun j u hj hu => xo_1 ho u (by
    have e : j = 4 := by omega
    subst e
    simpa using hu)) k
theorem xw_iinc5 {n : Int} {x v : Int32} {o0 o1 o2 o3 o4 : Option Value} {t : List (Option Value)} (h : xw_dec M.2.1 pc (.iinc 5 n) 3 pc') (hv : x + Int32.ofInt n = v) (hn : 5 < M.2.2.1) (ho : xo_b o4 = true) (k : xw_w κ l M pc' (o0 :: o1 :: o2 :: o3 :: o4 :: some (.int v) :: t) S w E) : xw_w κ l M pc (o0 :: o1 :: o2 :: o3 :: o4 :: some (.int x) :: t) S w E :=
  xw_iincG (i := 5) h hv hn (by simp) rfl (fun j u hj hu => xo_1 ho u (by
    have e : j = 4 := by omega
    subst e
    simpa using hu)) k
theorem xw_aload5 {x : Nat} {o0 o1 o2 o3 o4 : Option Value} {t : List (Option Value)} (h : xw_dec M.2.1 pc (.aload 5) 2 pc') (k : xw_w κ l M pc' (o0 :: o1 :: o2 :: o3 :: o4 :: some (.ref x) :: t) (.ref x :: S) w E) : xw_w κ l M pc (o0 :: o1 :: o2 :: o3 :: o4 :: some (.ref x) :: t) S w E := by
  obtain ⟨hdg, rfl⟩ := h
  exact xw_s k fun G p e R s m args below meth c H locs cells slots ls Q hS hR hL kw => lv_aload hS.1 hS.2.1 hdg (hL.get (i := 5) (v := .ref x) rfl) kw
theorem xw_astore5 {x : Nat} {o0 o1 o2 o3 o4 : Option Value} {d : Option Value} {t : List (Option Value)} (h : xw_dec M.2.1 pc (.astore 5) 2 pc') (hn : 5 < M.2.2.1) (ho : xo_b o4 = true) (k : xw_w κ l M pc' (o0 :: o1 :: o2 :: o3 :: o4 :: some (.ref x) :: t) S w E) : xw_w κ l M pc (o0 :: o1 :: o2 :: o3 :: o4 :: d :: t) (.ref x :: S) w E :=
  xw_astoreG (i := 5) h (Or.inr ⟨rfl, rfl⟩) hn (by simp) (fun j u hj hu => xo_1 ho u (by
    have e : j = 4 := by omega
    subst e
    simpa using hu)) k
theorem xw_iload6 {x : Int32} {o0 o1 o2 o3 o4 o5 : Option Value} {t : List (Option Value)} (h : xw_dec M.2.1 pc (.iload 6) 2 pc') (k : xw_w κ l M pc' (o0 :: o1 :: o2 :: o3 :: o4 :: o5 :: some (.int x) :: t) (.int x :: S) w E) : xw_w κ l M pc (o0 :: o1 :: o2 :: o3 :: o4 :: o5 :: some (.int x) :: t) S w E := by
  obtain ⟨hdg, rfl⟩ := h
  exact xw_s k fun G p e R s m args below meth c H locs cells slots ls Q hS hR hL kw => lv_iload hS.1 hS.2.1 hdg (hL.get (i := 6) (v := .int x) rfl) kw
theorem xw_istore6 {x : Int32} {o0 o1 o2 o3 o4 o5 : Option Value} {d : Option Value} {t : List (Option Value)} (h : xw_dec M.2.1 pc (.istore 6) 2 pc') (hn : 6 < M.2.2.1) (ho : xo_b o5 = true) (k : xw_w κ l M pc' (o0 :: o1 :: o2 :: o3 :: o4 :: o5 :: some (.int x) :: t) S w E) : xw_w κ l M pc (o0 :: o1 :: o2 :: o3 :: o4 :: o5 :: d :: t) (.int x :: S) w E :=
  xw_istoreG (i := 6) h (Or.inr ⟨rfl, rfl⟩) hn (by simp) (fun j u hj hu => xo_1 ho u (by
    have e : j = 5 := by omega
    subst e
    simpa using hu)) k
theorem xw_iinc6 {n : Int} {x v : Int32} {o0 o1 o2 o3 o4 o5 : Option Value} {t : List (Option Value)} (h : xw_dec M.2.1 pc (.iinc 6 n) 3 pc') (hv : x + Int32.ofInt n = v) (hn : 6 < M.2.2.1) (ho : xo_b o5 = true) (k : xw_w κ l M pc' (o0 :: o1 :: o2 :: o3 :: o4 :: o5 :: some (.int v) :: t) S w E) : xw_w κ l M pc (o0 :: o1 :: o2 :: o3 :: o4 :: o5 :: some (.int x) :: t) S w E :=
  xw_iincG (i := 6) h hv hn (by simp) rfl (fun j u hj hu => xo_1 ho u (by
    have e : j = 5 := by omega
    subst e
    simpa using hu)) k
theorem xw_iload7 {x : Int32} {o0 o1 o2 o3 o4 o5 o6 : Option Value} {t : List (Option Value)} (h : xw_dec M.2.1 pc (.iload 7) 2 pc') (k : xw_w κ l M pc' (o0 :: o1 :: o2 :: o3 :: o4 :: o5 :: o6 :: some (.int x) :: t) (.int x :: S) w E) : xw_w κ l M pc (o0 :: o1 :: o2 :: o3 :: o4 :: o5 :: o6 :: some (.int x) :: t) S w E := by
  obtain ⟨hdg, rfl⟩ := h
  exact xw_s k fun G p e R s m args below meth c H locs cells slots ls Q hS hR hL kw => lv_iload hS.1 hS.2.1 hdg (hL.get (i := 7) (v := .int x) rfl) kw
theorem xw_istore7 {x : Int32} {o0 o1 o2 o3 o4 o5 o6 : Option Value} {d : Option Value} {t : List (Option Value)} (h : xw_dec M.2.1 pc (.istore 7) 2 pc') (hn : 7 < M.2.2.1) (ho : xo_b o6 = true) (k : xw_w κ l M pc' (o0 :: o1 :: o2 :: o3 :: o4 :: o5 :: o6 :: some (.int x) :: t) S w E) : xw_w κ l M pc (o0 :: o1 :: o2 :: o3 :: o4 :: o5 :: o6 :: d :: t) (.int x :: S) w E :=
  xw_istoreG (i := 7) h (Or.inr ⟨rfl, rfl⟩) hn (by simp) (fun j u hj hu => xo_1 ho u (by
    have e : j = 6 := by omega
    subst e
    simpa using hu)) k
theorem xw_iinc7 {n : Int} {x v : Int32} {o0 o1 o2 o3 o4 o5 o6 : Option Value} {t : List (Option Value)} (h : xw_dec M.2.1 pc (.iinc 7 n) 3 pc') (hv : x + Int32.ofInt n = v) (hn : 7 < M.2.2.1) (ho : xo_b o6 = true) (k : xw_w κ l M pc' (o0 :: o1 :: o2 :: o3 :: o4 :: o5 :: o6 :: some (.int v) :: t) S w E) : xw_w κ l M pc (o0 :: o1 :: o2 :: o3 :: o4 :: o5 :: o6 :: some (.int x) :: t) S w E :=
  xw_iincG (i := 7) h hv hn (by simp) rfl (fun j u hj hu => xo_1 ho u (by
    have e : j = 6 := by omega
    subst e
    simpa using hu)) k
theorem xw_iload8 {x : Int32} {o0 o1 o2 o3 o4 o5 o6 o7 : Option Value} {t : List (Option Value)} (h : xw_dec M.2.1 pc (.iload 8) 2 pc') (k : xw_w κ l M pc' (o0 :: o1 :: o2 :: o3 :: o4 :: o5 :: o6 :: o7 :: some (.int x) :: t) (.int x :: S) w E) : xw_w κ l M pc (o0 :: o1 :: o2 :: o3 :: o4 :: o5 :: o6 :: o7 :: some (.int x) :: t) S w E := by
  obtain ⟨hdg, rfl⟩ := h
  exact xw_s k fun G p e R s m args below meth c H locs cells slots ls Q hS hR hL kw => lv_iload hS.1 hS.2.1 hdg (hL.get (i := 8) (v := .int x) rfl) kw
theorem xw_istore8 {x : Int32} {o0 o1 o2 o3 o4 o5 o6 o7 : Option Value} {d : Option Value} {t : List (Option Value)} (h : xw_dec M.2.1 pc (.istore 8) 2 pc') (hn : 8 < M.2.2.1) (ho : xo_b o7 = true) (k : xw_w κ l M pc' (o0 :: o1 :: o2 :: o3 :: o4 :: o5 :: o6 :: o7 :: some (.int x) :: t) S w E) : xw_w κ l M pc (o0 :: o1 :: o2 :: o3 :: o4 :: o5 :: o6 :: o7 :: d :: t) (.int x :: S) w E :=
  xw_istoreG (i := 8) h (Or.inr ⟨rfl, rfl⟩) hn (by simp) (fun j u hj hu => xo_1 ho u (by
    have e : j = 7 := by omega
    subst e
    simpa using hu)) k
theorem xw_iinc8 {n : Int} {x v : Int32} {o0 o1 o2 o3 o4 o5 o6 o7 : Option Value} {t : List (Option Value)} (h : xw_dec M.2.1 pc (.iinc 8 n) 3 pc') (hv : x + Int32.ofInt n = v) (hn : 8 < M.2.2.1) (ho : xo_b o7 = true) (k : xw_w κ l M pc' (o0 :: o1 :: o2 :: o3 :: o4 :: o5 :: o6 :: o7 :: some (.int v) :: t) S w E) : xw_w κ l M pc (o0 :: o1 :: o2 :: o3 :: o4 :: o5 :: o6 :: o7 :: some (.int x) :: t) S w E :=
  xw_iincG (i := 8) h hv hn (by simp) rfl (fun j u hj hu => xo_1 ho u (by
    have e : j = 7 := by omega
    subst e
    simpa using hu)) k
theorem xw_iload9 {x : Int32} {o0 o1 o2 o3 o4 o5 o6 o7 o8 : Option Value} {t : List (Option Value)} (h : xw_dec M.2.1 pc (.iload 9) 2 pc') (k : xw_w κ l M pc' (o0 :: o1 :: o2 :: o3 :: o4 :: o5 :: o6 :: o7 :: o8 :: some (.int x) :: t) (.int x :: S) w E) : xw_w κ l M pc (o0 :: o1 :: o2 :: o3 :: o4 :: o5 :: o6 :: o7 :: o8 :: some (.int x) :: t) S w E := by
  obtain ⟨hdg, rfl⟩ := h
  exact xw_s k fun G p e R s m args below meth c H locs cells slots ls Q hS hR hL kw => lv_iload hS.1 hS.2.1 hdg (hL.get (i := 9) (v := .int x) rfl) kw
theorem xw_istore9 {x : Int32} {o0 o1 o2 o3 o4 o5 o6 o7 o8 : Option Value} {d : Option Value} {t : List (Option Value)} (h : xw_dec M.2.1 pc (.istore 9) 2 pc') (hn : 9 < M.2.2.1) (ho : xo_b o8 = true) (k : xw_w κ l M pc' (o0 :: o1 :: o2 :: o3 :: o4 :: o5 :: o6 :: o7 :: o8 :: some (.int x) :: t) S w E) : xw_w κ l M pc (o0 :: o1 :: o2 :: o3 :: o4 :: o5 :: o6 :: o7 :: o8 :: d :: t) (.int x :: S) w E :=
  xw_istoreG (i := 9) h (Or.inr ⟨rfl, rfl⟩) hn (by simp) (fun j u hj hu => xo_1 ho u (by
    have e : j = 8 := by omega
    subst e
    simpa using hu)) k
theorem xw_iinc9 {n : Int} {x v : Int32} {o0 o1 o2 o3 o4 o5 o6 o7 o8 : Option Value} {t : List (Option Value)} (h : xw_dec M.2.1 pc (.iinc 9 n) 3 pc') (hv : x + Int32.ofInt n = v) (hn : 9 < M.2.2.1) (ho : xo_b o8 = true) (k : xw_w κ l M pc' (o0 :: o1 :: o2 :: o3 :: o4 :: o5 :: o6 :: o7 :: o8 :: some (.int v) :: t) S w E) : xw_w κ l M pc (o0 :: o1 :: o2 :: o3 :: o4 :: o5 :: o6 :: o7 :: o8 :: some (.int x) :: t) S w E :=
  xw_iincG (i := 9) h hv hn (by simp) rfl (fun j u hj hu => xo_1 ho u (by
    have e : j = 8 := by omega
    subst e
    simpa using hu)) k
theorem xw_iload10 {x : Int32} {o0 o1 o2 o3 o4 o5 o6 o7 o8 o9 : Option Value} {t : List (Option Value)} (h : xw_dec M.2.1 pc (.iload 10) 2 pc') (k : xw_w κ l M pc' (o0 :: o1 :: o2 :: o3 :: o4 :: o5 :: o6 :: o7 :: o8 :: o9 :: some (.int x) :: t) (.int x :: S) w E) : xw_w κ l M pc (o0 :: o1 :: o2 :: o3 :: o4 :: o5 :: o6 :: o7 :: o8 :: o9 :: some (.int x) :: t) S w E := by
  obtain ⟨hdg, rfl⟩ := h
  exact xw_s k fun G p e R s m args below meth c H locs cells slots ls Q hS hR hL kw => lv_iload hS.1 hS.2.1 hdg (hL.get (i := 10) (v := .int x) rfl) kw
theorem xw_istore10 {x : Int32} {o0 o1 o2 o3 o4 o5 o6 o7 o8 o9 : Option Value} {d : Option Value} {t : List (Option Value)} (h : xw_dec M.2.1 pc (.istore 10) 2 pc') (hn : 10 < M.2.2.1) (ho : xo_b o9 = true) (k : xw_w κ l M pc' (o0 :: o1 :: o2 :: o3 :: o4 :: o5 :: o6 :: o7 :: o8 :: o9 :: some (.int x) :: t) S w E) : xw_w κ l M pc (o0 :: o1 :: o2 :: o3 :: o4 :: o5 :: o6 :: o7 :: o8 :: o9 :: d :: t) (.int x :: S) w E :=
  xw_istoreG (i := 10) h (Or.inr ⟨rfl, rfl⟩) hn (by simp) (fun j u hj hu => xo_1 ho u (by
    have e : j = 9 := by omega
    subst e
    simpa using hu)) k
theorem xw_iinc10 {n : Int} {x v : Int32} {o0 o1 o2 o3 o4 o5 o6 o7 o8 o9 : Option Value} {t : List (Option Value)} (h : xw_dec M.2.1 pc (.iinc 10 n) 3 pc') (hv : x + Int32.ofInt n = v) (hn : 10 < M.2.2.1) (ho : xo_b o9 = true) (k : xw_w κ l M pc' (o0 :: o1 :: o2 :: o3 :: o4 :: o5 :: o6 :: o7 :: o8 :: o9 :: some (.int v) :: t) S w E) : xw_w κ l M pc (o0 :: o1 :: o2 :: o3 :: o4 :: o5 :: o6 :: o7 :: o8 :: o9 :: some (.int x) :: t) S w E :=
  xw_iincG (i := 10) h hv hn (by simp) rfl (fun j u hj hu => xo_1 ho u (by
    have e : j = 9 := by omega
    subst e
    simpa using hu)) k
theorem xw_iload11 {x : Int32} {o0 o1 o2 o3 o4 o5 o6 o7 o8 o9 o10 : Option Value} {t : List (Option Value)} (h : xw_dec M.2.1 pc (.iload 11) 2 pc') (k : xw_w κ l M pc' (o0 :: o1 :: o2 :: o3 :: o4 :: o5 :: o6 :: o7 :: o8 :: o9 :: o10 :: some (.int x) :: t) (.int x :: S) w E) : xw_w κ l M pc (o0 :: o1 :: o2 :: o3 :: o4 :: o5 :: o6 :: o7 :: o8 :: o9 :: o10 :: some (.int x) :: t) S w E := by
  obtain ⟨hdg, rfl⟩ := h
  exact xw_s k fun G p e R s m args below meth c H locs cells slots ls Q hS hR hL kw => lv_iload hS.1 hS.2.1 hdg (hL.get (i := 11) (v := .int x) rfl) kw
theorem xw_istore11 {x : Int32} {o0 o1 o2 o3 o4 o5 o6 o7 o8 o9 o10 : Option Value} {d : Option Value} {t : List (Option Value)} (h : xw_dec M.2.1 pc (.istore 11) 2 pc') (hn : 11 < M.2.2.1) (ho : xo_b o10 = true) (k : xw_w κ l M pc' (o0 :: o1 :: o2 :: o3 :: o4 :: o5 :: o6 :: o7 :: o8 :: o9 :: o10 :: some (.int x) :: t) S w E) : xw_w κ l M pc (o0 :: o1 :: o2 :: o3 :: o4 :: o5 :: o6 :: o7 :: o8 :: o9 :: o10 :: d :: t) (.int x :: S) w E :=
  xw_istoreG (i := 11) h (Or.inr ⟨rfl, rfl⟩) hn (by simp) (fun j u hj hu => xo_1 ho u (by
    have e : j = 10 := by omega
    subst e
    simpa using hu)) k
theorem xw_iinc11 {n : Int} {x v : Int32} {o0 o1 o2 o3 o4 o5 o6 o7 o8 o9 o10 : Option Value} {t : List (Option Value)} (h : xw_dec M.2.1 pc (.iinc 11 n) 3 pc') (hv : x + Int32.ofInt n = v) (hn : 11 < M.2.2.1) (ho : xo_b o10 = true) (k : xw_w κ l M pc' (o0 :: o1 :: o2 :: o3 :: o4 :: o5 :: o6 :: o7 :: o8 :: o9 :: o10 :: some (.int v) :: t) S w E) : xw_w κ l M pc (o0 :: o1 :: o2 :: o3 :: o4 :: o5 :: o6 :: o7 :: o8 :: o9 :: o10 :: some (.int x) :: t) S w E :=
  xw_iincG (i := 11) h hv hn (by simp) rfl (fun j u hj hu => xo_1 ho u (by
    have e : j = 10 := by omega
    subst e
    simpa using hu)) k
theorem xw_iload12 {x : Int32} {o0 o1 o2 o3 o4 o5 o6 o7 o8 o9 o10 o11 : Option Value} {t : List (Option Value)} (h : xw_dec M.2.1 pc (.iload 12) 2 pc') (k : xw_w κ l M pc' (o0 :: o1 :: o2 :: o3 :: o4 :: o5 :: o6 :: o7 :: o8 :: o9 :: o10 :: o11 :: some (.int x) :: t) (.int x :: S) w E) : xw_w κ l M pc (o0 :: o1 :: o2 :: o3 :: o4 :: o5 :: o6 :: o7 :: o8 :: o9 :: o10 :: o11 :: some (.int x) :: t) S w E := by
  obtain ⟨hdg, rfl⟩ := h
  exact xw_s k fun G p e R s m args below meth c H locs cells slots ls Q hS hR hL kw => lv_iload hS.1 hS.2.1 hdg (hL.get (i := 12) (v := .int x) rfl) kw
theorem xw_istore12 {x : Int32} {o0 o1 o2 o3 o4 o5 o6 o7 o8 o9 o10 o11 : Option Value} {d : Option Value} {t : List (Option Value)} (h : xw_dec M.2.1 pc (.istore 12) 2 pc') (hn : 12 < M.2.2.1) (ho : xo_b o11 = true) (k : xw_w κ l M pc' (o0 :: o1 :: o2 :: o3 :: o4 :: o5 :: o6 :: o7 :: o8 :: o9 :: o10 :: o11 :: some (.int x) :: t) S w E) : xw_w κ l M pc (o0 :: o1 :: o2 :: o3 :: o4 :: o5 :: o6 :: o7 :: o8 :: o9 :: o10 :: o11 :: d :: t) (.int x :: S) w E :=
  xw_istoreG (i := 12) h (Or.inr ⟨rfl, rfl⟩) hn (by simp) (fun j u hj hu => xo_1 ho u (by
    have e : j = 11 := by omega
    subst e
    simpa using hu)) k
theorem xw_iinc12 {n : Int} {x v : Int32} {o0 o1 o2 o3 o4 o5 o6 o7 o8 o9 o10 o11 : Option Value} {t : List (Option Value)} (h : xw_dec M.2.1 pc (.iinc 12 n) 3 pc') (hv : x + Int32.ofInt n = v) (hn : 12 < M.2.2.1) (ho : xo_b o11 = true) (k : xw_w κ l M pc' (o0 :: o1 :: o2 :: o3 :: o4 :: o5 :: o6 :: o7 :: o8 :: o9 :: o10 :: o11 :: some (.int v) :: t) S w E) : xw_w κ l M pc (o0 :: o1 :: o2 :: o3 :: o4 :: o5 :: o6 :: o7 :: o8 :: o9 :: o10 :: o11 :: some (.int x) :: t) S w E :=
  xw_iincG (i := 12) h hv hn (by simp) rfl (fun j u hj hu => xo_1 ho u (by
    have e : j = 11 := by omega
    subst e
    simpa using hu)) k
theorem xw_iload13 {x : Int32} {o0 o1 o2 o3 o4 o5 o6 o7 o8 o9 o10 o11 o12 : Option Value} {t : List (Option Value)} (h : xw_dec M.2.1 pc (.iload 13) 2 pc') (k : xw_w κ l M pc' (o0 :: o1 :: o2 :: o3 :: o4 :: o5 :: o6 :: o7 :: o8 :: o9 :: o10 :: o11 :: o12 :: some (.int x) :: t) (.int x :: S) w E) : xw_w κ l M pc (o0 :: o1 :: o2 :: o3 :: o4 :: o5 :: o6 :: o7 :: o8 :: o9 :: o10 :: o11 :: o12 :: some (.int x) :: t) S w E := by
  obtain ⟨hdg, rfl⟩ := h
  exact xw_s k fun G p e R s m args below meth c H locs cells slots ls Q hS hR hL kw => lv_iload hS.1 hS.2.1 hdg (hL.get (i := 13) (v := .int x) rfl) kw
theorem xw_istore13 {x : Int32} {o0 o1 o2 o3 o4 o5 o6 o7 o8 o9 o10 o11 o12 : Option Value} {d : Option Value} {t : List (Option Value)} (h : xw_dec M.2.1 pc (.istore 13) 2 pc') (hn : 13 < M.2.2.1) (ho : xo_b o12 = true) (k : xw_w κ l M pc' (o0 :: o1 :: o2 :: o3 :: o4 :: o5 :: o6 :: o7 :: o8 :: o9 :: o10 :: o11 :: o12 :: some (.int x) :: t) S w E) : xw_w κ l M pc (o0 :: o1 :: o2 :: o3 :: o4 :: o5 :: o6 :: o7 :: o8 :: o9 :: o10 :: o11 :: o12 :: d :: t) (.int x :: S) w E :=
  xw_istoreG (i := 13) h (Or.inr ⟨rfl, rfl⟩) hn (by simp) (fun j u hj hu => xo_1 ho u (by
    have e : j = 12 := by omega
    subst e
    simpa using hu)) k
theorem xw_iinc13 {n : Int} {x v : Int32} {o0 o1 o2 o3 o4 o5 o6 o7 o8 o9 o10 o11 o12 : Option Value} {t : List (Option Value)} (h : xw_dec M.2.1 pc (.iinc 13 n) 3 pc') (hv : x + Int32.ofInt n = v) (hn : 13 < M.2.2.1) (ho : xo_b o12 = true) (k : xw_w κ l M pc' (o0 :: o1 :: o2 :: o3 :: o4 :: o5 :: o6 :: o7 :: o8 :: o9 :: o10 :: o11 :: o12 :: some (.int v) :: t) S w E) : xw_w κ l M pc (o0 :: o1 :: o2 :: o3 :: o4 :: o5 :: o6 :: o7 :: o8 :: o9 :: o10 :: o11 :: o12 :: some (.int x) :: t) S w E :=
  xw_iincG (i := 13) h hv hn (by simp) rfl (fun j u hj hu => xo_1 ho u (by
    have e : j = 12 := by omega
    subst e
    simpa using hu)) k
theorem xw_iload14 {x : Int32} {o0 o1 o2 o3 o4 o5 o6 o7 o8 o9 o10 o11 o12 o13 : Option Value} {t : List (Option Value)} (h : xw_dec M.2.1 pc (.iload 14) 2 pc') (k : xw_w κ l M pc' (o0 :: o1 :: o2 :: o3 :: o4 :: o5 :: o6 :: o7 :: o8 :: o9 :: o10 :: o11 :: o12 :: o13 :: some (.int x) :: t) (.int x :: S) w E) : xw_w κ l M pc (o0 :: o1 :: o2 :: o3 :: o4 :: o5 :: o6 :: o7 :: o8 :: o9 :: o10 :: o11 :: o12 :: o13 :: some (.int x) :: t) S w E := by
  obtain ⟨hdg, rfl⟩ := h
  exact xw_s k fun G p e R s m args below meth c H locs cells slots ls Q hS hR hL kw => lv_iload hS.1 hS.2.1 hdg (hL.get (i := 14) (v := .int x) rfl) kw
theorem xw_istore14 {x : Int32} {o0 o1 o2 o3 o4 o5 o6 o7 o8 o9 o10 o11 o12 o13 : Option Value} {d : Option Value} {t : List (Option Value)} (h : xw_dec M.2.1 pc (.istore 14) 2 pc') (hn : 14 < M.2.2.1) (ho : xo_b o13 = true) (k : xw_w κ l M pc' (o0 :: o1 :: o2 :: o3 :: o4 :: o5 :: o6 :: o7 :: o8 :: o9 :: o10 :: o11 :: o12 :: o13 :: some (.int x) :: t) S w E) : xw_w κ l M pc (o0 :: o1 :: o2 :: o3 :: o4 :: o5 :: o6 :: o7 :: o8 :: o9 :: o10 :: o11 :: o12 :: o13 :: d :: t) (.int x :: S) w E :=
  xw_istoreG (i := 14) h (Or.inr ⟨rfl, rfl⟩) hn (by simp) (fun j u hj hu => xo_1 ho u (by
    have e : j = 13 := by omega
    subst e
    simpa using hu)) k
theorem xw_iinc14 {n : Int} {x v : Int32} {o0 o1 o2 o3 o4 o5 o6 o7 o8 o9 o10 o11 o12 o13 : Option Value} {t : List (Option Value)} (h : xw_dec M.2.1 pc (.iinc 14 n) 3 pc') (hv : x + Int32.ofInt n = v) (hn : 14 < M.2.2.1) (ho : xo_b o13 = true) (k : xw_w κ l M pc' (o0 :: o1 :: o2 :: o3 :: o4 :: o5 :: o6 :: o7 :: o8 :: o9 :: o10 :: o11 :: o12 :: o13 :: some (.int v) :: t) S w E) : xw_w κ l M pc (o0 :: o1 :: o2 :: o3 :: o4 :: o5 :: o6 :: o7 :: o8 :: o9 :: o10 :: o11 :: o12 :: o13 :: some (.int x) :: t) S w E :=
  xw_iincG (i := 14) h hv hn (by simp) rfl (fun j u hj hu => xo_1 ho u (by
    have e : j = 13 := by omega
    subst e
    simpa using hu)) k
theorem xw_iadd {x y : Int32} (h : xw_dec M.2.1 pc .iadd 1 pc') (k : xw_w κ l M pc' L (.int (x + y) :: S) w E) : xw_w κ l M pc L (.int y :: .int x :: S) w E := by
  obtain ⟨hdg, rfl⟩ := h
  exact xw_s k fun G p e R s m args below meth c H locs cells slots ls Q hS hR hL kw => lv_iadd hS.1 hS.2.1 hdg  kw
theorem xw_isub {x y : Int32} (h : xw_dec M.2.1 pc .isub 1 pc') (k : xw_w κ l M pc' L (.int (x - y) :: S) w E) : xw_w κ l M pc L (.int y :: .int x :: S) w E := by
  obtain ⟨hdg, rfl⟩ := h
  exact xw_s k fun G p e R s m args below meth c H locs cells slots ls Q hS hR hL kw => lv_isub hS.1 hS.2.1 hdg  kw
theorem xw_imul {x y : Int32} (h : xw_dec M.2.1 pc .imul 1 pc') (k : xw_w κ l M pc' L (.int (x * y) :: S) w E) : xw_w κ l M pc L (.int y :: .int x :: S) w E := by
  obtain ⟨hdg, rfl⟩ := h
  exact xw_s k fun G p e R s m args below meth c H locs cells slots ls Q hS hR hL kw => lv_imul hS.1 hS.2.1 hdg  kw
theorem xw_iand {x y : Int32} (h : xw_dec M.2.1 pc .iand 1 pc') (k : xw_w κ l M pc' L (.int (x &&& y) :: S) w E) : xw_w κ l M pc L (.int y :: .int x :: S) w E := by
  obtain ⟨hdg, rfl⟩ := h
  exact xw_s k fun G p e R s m args below meth c H locs cells slots ls Q hS hR hL kw => lv_iand hS.1 hS.2.1 hdg  kw
theorem xw_ior {x y : Int32} (h : xw_dec M.2.1 pc .ior 1 pc') (k : xw_w κ l M pc' L (.int (x ||| y) :: S) w E) : xw_w κ l M pc L (.int y :: .int x :: S) w E := by
  obtain ⟨hdg, rfl⟩ := h
  exact xw_s k fun G p e R s m args below meth c H locs cells slots ls Q hS hR hL kw => lv_ior hS.1 hS.2.1 hdg  kw
theorem xw_idiv {x y : Int32} (h : xw_dec M.2.1 pc .idiv 1 pc') (hne : ¬ y = 0) (k : xw_w κ l M pc' L (.int (x / y) :: S) w E) : xw_w κ l M pc L (.int y :: .int x :: S) w E := by
  obtain ⟨hdg, rfl⟩ := h
  exact xw_s k fun G p e R s m args below meth c H locs cells slots ls Q hS hR hL kw => lv_idiv hS.1 hS.2.1 hdg hne kw
theorem xw_irem {x y : Int32} (h : xw_dec M.2.1 pc .irem 1 pc') (hne : ¬ y = 0) (k : xw_w κ l M pc' L (.int (x - x / y * y) :: S) w E) : xw_w κ l M pc L (.int y :: .int x :: S) w E := by
  obtain ⟨hdg, rfl⟩ := h
  exact xw_s k fun G p e R s m args below meth c H locs cells slots ls Q hS hR hL kw => lv_irem hS.1 hS.2.1 hdg hne kw
theorem xw_ishr {x y : Int32} (h : xw_dec M.2.1 pc .ishr 1 pc') (k : xw_w κ l M pc' L (.int (x >>> (y &&& 31)) :: S) w E) : xw_w κ l M pc L (.int y :: .int x :: S) w E := by
  obtain ⟨hdg, rfl⟩ := h
  exact xw_s k fun G p e R s m args below meth c H locs cells slots ls Q hS hR hL kw => lv_ishr hS.1 hS.2.1 hdg  kw
theorem xw_lor {x y : Int64} (h : xw_dec M.2.1 pc .lor 1 pc') (k : xw_w κ l M pc' L (.long (x ||| y) :: S) w E) : xw_w κ l M pc L (.long y :: .long x :: S) w E := by
  obtain ⟨hdg, rfl⟩ := h
  exact xw_s k fun G p e R s m args below meth c H locs cells slots ls Q hS hR hL kw => lv_lor hS.1 hS.2.1 hdg  kw
theorem xw_land {x y : Int64} (h : xw_dec M.2.1 pc .land 1 pc') (k : xw_w κ l M pc' L (.long (x &&& y) :: S) w E) : xw_w κ l M pc L (.long y :: .long x :: S) w E := by
  obtain ⟨hdg, rfl⟩ := h
  exact xw_s k fun G p e R s m args below meth c H locs cells slots ls Q hS hR hL kw => lv_land hS.1 hS.2.1 hdg  kw
theorem xw_lshl {x : Int64} {y : Int32} (h : xw_dec M.2.1 pc .lshl 1 pc') (k : xw_w κ l M pc' L (.long (x <<< (y.toInt64 &&& 63)) :: S) w E) : xw_w κ l M pc L (.int y :: .long x :: S) w E := by
  obtain ⟨hdg, rfl⟩ := h
  exact xw_s k fun G p e R s m args below meth c H locs cells slots ls Q hS hR hL kw => lv_lshl hS.1 hS.2.1 hdg rfl kw
theorem xw_lshr {x : Int64} {y : Int32} (h : xw_dec M.2.1 pc .lshr 1 pc') (k : xw_w κ l M pc' L (.long (x >>> (y.toInt64 &&& 63)) :: S) w E) : xw_w κ l M pc L (.int y :: .long x :: S) w E := by
  obtain ⟨hdg, rfl⟩ := h
  exact xw_s k fun G p e R s m args below meth c H locs cells slots ls Q hS hR hL kw => lv_lshr hS.1 hS.2.1 hdg rfl kw
theorem xw_lushr {x : Int64} {y : Int32} (h : xw_dec M.2.1 pc .lushr 1 pc') (k : xw_w κ l M pc' L (.long ((x.toUInt64 >>> (y.toInt64.toUInt64 &&& Int64.toUInt64 63)).toInt64) :: S) w E) : xw_w κ l M pc L (.int y :: .long x :: S) w E := by
  obtain ⟨hdg, rfl⟩ := h
  exact xw_s k fun G p e R s m args below meth c H locs cells slots ls Q hS hR hL kw => lv_lushr hS.1 hS.2.1 hdg rfl kw
theorem xw_lcmp {x y : Int64} (h : xw_dec M.2.1 pc .lcmp 1 pc') (k : xw_w κ l M pc' L (.int (lg_cmp x y) :: S) w E) : xw_w κ l M pc L (.long y :: .long x :: S) w E := by
  obtain ⟨hdg, rfl⟩ := h
  exact xw_s k fun G p e R s m args below meth c H locs cells slots ls Q hS hR hL kw => W.lcmp hS.1 hS.2.1 hdg kw
theorem xw_i2l {x : Int32} (h : xw_dec M.2.1 pc .i2l 1 pc') (k : xw_w κ l M pc' L (.long x.toInt64 :: S) w E) : xw_w κ l M pc L (.int x :: S) w E := by
  obtain ⟨hdg, rfl⟩ := h
  exact xw_s k fun G p e R s m args below meth c H locs cells slots ls Q hS hR hL kw => lv_i2l hS.1 hS.2.1 hdg rfl kw
theorem xw_l2i {x : Int64} (h : xw_dec M.2.1 pc .l2i 1 pc') (k : xw_w κ l M pc' L (.int x.toInt32 :: S) w E) : xw_w κ l M pc L (.long x :: S) w E := by
  obtain ⟨hdg, rfl⟩ := h
  exact xw_s k fun G p e R s m args below meth c H locs cells slots ls Q hS hR hL kw => lv_l2i hS.1 hS.2.1 hdg rfl kw
theorem xw_dup {v : Value} (h : xw_dec M.2.1 pc .dup 1 pc') (hv : v.category = 1) (k : xw_w κ l M pc' L (v :: v :: S) w E) : xw_w κ l M pc L (v :: S) w E := by
  obtain ⟨hdg, rfl⟩ := h
  exact xw_s k fun G p e R s m args below meth c H locs cells slots ls Q hS hR hL kw => lv_dup hS.1 hS.2.1 hdg (by rw [xw_tv_cat]; exact hv) kw
theorem xw_pop {v : Value} (h : xw_dec M.2.1 pc .pop 1 pc') (hv : v.category = 1) (k : xw_w κ l M pc' L S w E) : xw_w κ l M pc L (v :: S) w E := by
  obtain ⟨hdg, rfl⟩ := h
  exact xw_s k fun G p e R s m args below meth c H locs cells slots ls Q hS hR hL kw => lv_pop hS.1 hS.2.1 hdg (by rw [xw_tv_cat]; exact hv) kw
theorem xw_dup2 {v v2 : Value} (h : xw_dec M.2.1 pc .dup2 1 pc') (hv : v.category = 1) (hv2 : v2.category = 1) (k : xw_w κ l M pc' L (v :: v2 :: v :: v2 :: S) w E) : xw_w κ l M pc L (v :: v2 :: S) w E := by
  obtain ⟨hdg, rfl⟩ := h
  exact xw_s k fun G p e R s m args below meth c H locs cells slots ls Q hS hR hL kw => lv_dup2_11 hS.1 hS.2.1 hdg (by rw [xw_tv_cat]; exact hv) (by rw [xw_tv_cat]; exact hv2) kw
theorem xw_iconst {n : Int} {v : Int32} (h : xw_dec M.2.1 pc (.iconst n) 1 pc') (hv : Int32.ofInt n = v) (k : xw_w κ l M pc' L (.int v :: S) w E) : xw_w κ l M pc L S w E := by
  obtain ⟨hdg, rfl⟩ := h
  exact xw_s k fun G p e R s m args below meth c H locs cells slots ls Q hS hR hL kw => lv_iconst hS.1 hS.2.1 hdg hv kw
theorem xw_bipush {n : Int} {v : Int32} (h : xw_dec M.2.1 pc (.bipush n) 2 pc') (hv : (Int8.ofInt n).toInt32 = v) (k : xw_w κ l M pc' L (.int v :: S) w E) : xw_w κ l M pc L S w E := by
  obtain ⟨hdg, rfl⟩ := h
  exact xw_s k fun G p e R s m args below meth c H locs cells slots ls Q hS hR hL kw => lv_bipush hS.1 hS.2.1 hdg hv kw
theorem xw_sipush {n : Int} {v : Int32} (h : xw_dec M.2.1 pc (.sipush n) 3 pc') (hv : (Int16.ofInt n).toInt32 = v) (k : xw_w κ l M pc' L (.int v :: S) w E) : xw_w κ l M pc L S w E := by
  obtain ⟨hdg, rfl⟩ := h
  exact xw_s k fun G p e R s m args below meth c H locs cells slots ls Q hS hR hL kw => lv_sipush hS.1 hS.2.1 hdg hv kw
theorem xw_lconst {n : Fin 2} {v : Int64} (h : xw_dec M.2.1 pc (.lconst n) 1 pc') (hv : Int64.ofNat (n : Nat) = v) (k : xw_w κ l M pc' L (.long v :: S) w E) : xw_w κ l M pc L S w E := by
  obtain ⟨hdg, rfl⟩ := h
  exact xw_s k fun G p e R s m args below meth c H locs cells slots ls Q hS hR hL kw => lv_lconst hS.1 hS.2.1 hdg hv kw
theorem xw_ldc {idx : Nat} {v : Int32} (h : xw_dec M.2.1 pc (.ldc idx) 2 pc') (hc : Cond.constant M.1.cls idx v ∈ xw_T) (k : xw_w κ l M pc' L (.int v :: S) w E) : xw_w κ l M pc L S w E := by
  obtain ⟨hdg, rfl⟩ := h
  exact xw_s k fun G p e R s m args below meth c H locs cells slots ls Q hS hR hL kw => lv_ldc hS.1 hS.2.1 hS.2.2.2.2.2.1 (hS.2.2.2.2.2.2.2.1 _ hc) hdg kw
theorem xw_ldc2 {idx : Nat} {v : Int64} (h : xw_dec M.2.1 pc (.ldc2_w idx) 3 pc') (hc : Cond.constantLong M.1.cls idx v ∈ xw_T) (k : xw_w κ l M pc' L (.long v :: S) w E) : xw_w κ l M pc L S w E := by
  obtain ⟨hdg, rfl⟩ := h
  exact xw_s k fun G p e R s m args below meth c H locs cells slots ls Q hS hR hL kw => lv_ldc2 hS.1 hS.2.1 hS.2.2.2.2.2.1 (hS.2.2.2.2.2.2.2.1 _ hc) hdg kw
theorem xw_goto {off : Int} {tgt : Nat} (h : xw_dec M.2.1 pc (.goto off) 3 pc') (ht : (pc : Int) + off = (tgt : Int)) (k : xw_w κ l M tgt L S w E) : xw_w κ l M pc L S w E := by
  obtain ⟨hdg, rfl⟩ := h
  exact xw_s k fun G p e R s m args below meth c H locs cells slots ls Q hS hR hL kw => lv_goto hS.1 hS.2.1 hdg ht kw
theorem xw_if_eq {x : Int32} {off : Int} {tgt : Nat} (h : xw_dec M.2.1 pc (.ifCond .eq off) 3 pc') (ht : (pc : Int) + off = (tgt : Int)) (kt : x = 0 → xw_w κ l M tgt L S w E) (kf : ¬ x = 0 → xw_w κ l M pc' L S w E) : xw_w κ l M pc L (.int x :: S) w E := by
  obtain ⟨hdg, rfl⟩ := h
  have hm : w.1 ≤ E.2.1 ∧ w.2.1 ≤ E.2.2.1 := by
    by_cases hx : x = 0
    · exact (kt hx).1
    · exact (kf hx).1
  exact ⟨hm, fun G p e R s m args below meth c H locs cells slots ls hS hR hL hlo hc hs => lv_if_eq hS.1 hS.2.1 hdg ht (fun hx => (kt hx).2 G p e R s m args below meth c H locs cells slots ls hS hR hL hlo hc hs) (fun hx => (kf hx).2 G p e R s m args below meth c H locs cells slots ls hS hR hL hlo hc hs)⟩
theorem xw_if_eq' {x : Int32} {off : Int} {tgt : Nat} {β : Type} {φ : β → xw_O × xw_W} {A B : β} (h : xw_dec M.2.1 pc (.ifCond .eq off) 3 pc') (ht : (pc : Int) + off = (tgt : Int)) (kt : x = 0 → xw_w κ l M tgt L S w (φ A)) (kf : ¬ x = 0 → xw_w κ l M pc' L S w (φ B)) : xw_w κ l M pc L (.int x :: S) w (φ (if x = 0 then A else B)) :=
  xw_if_eq h ht (fun hx => by rw [if_pos hx]; exact kt hx) (fun hx => by rw [if_neg hx]; exact kf hx)
theorem xw_if_ne {x : Int32} {off : Int} {tgt : Nat} (h : xw_dec M.2.1 pc (.ifCond .ne off) 3 pc') (ht : (pc : Int) + off = (tgt : Int)) (kt : ¬ x = 0 → xw_w κ l M tgt L S w E) (kf : x = 0 → xw_w κ l M pc' L S w E) : xw_w κ l M pc L (.int x :: S) w E := by
  obtain ⟨hdg, rfl⟩ := h
  have hm : w.1 ≤ E.2.1 ∧ w.2.1 ≤ E.2.2.1 := by
    by_cases hx : x = 0
    · exact (kf hx).1
    · exact (kt hx).1
  exact ⟨hm, fun G p e R s m args below meth c H locs cells slots ls hS hR hL hlo hc hs => lv_if_ne hS.1 hS.2.1 hdg ht (fun hx => (kt hx).2 G p e R s m args below meth c H locs cells slots ls hS hR hL hlo hc hs) (fun hx => (kf hx).2 G p e R s m args below meth c H locs cells slots ls hS hR hL hlo hc hs)⟩
theorem xw_if_ne' {x : Int32} {off : Int} {tgt : Nat} {β : Type} {φ : β → xw_O × xw_W} {A B : β} (h : xw_dec M.2.1 pc (.ifCond .ne off) 3 pc') (ht : (pc : Int) + off = (tgt : Int)) (kt : ¬ x = 0 → xw_w κ l M tgt L S w (φ B)) (kf : x = 0 → xw_w κ l M pc' L S w (φ A)) : xw_w κ l M pc L (.int x :: S) w (φ (if x = 0 then A else B)) :=
  xw_if_ne h ht (fun hx => by rw [if_neg hx]; exact kt hx) (fun hx => by rw [if_pos hx]; exact kf hx)
theorem xw_if_lt {x : Int32} {off : Int} {tgt : Nat} (h : xw_dec M.2.1 pc (.ifCond .lt off) 3 pc') (ht : (pc : Int) + off = (tgt : Int)) (kt : x < 0 → xw_w κ l M tgt L S w E) (kf : ¬ x < 0 → xw_w κ l M pc' L S w E) : xw_w κ l M pc L (.int x :: S) w E := by
  obtain ⟨hdg, rfl⟩ := h
  have hm : w.1 ≤ E.2.1 ∧ w.2.1 ≤ E.2.2.1 := by
    by_cases hx : x < 0
    · exact (kt hx).1
    · exact (kf hx).1
  exact ⟨hm, fun G p e R s m args below meth c H locs cells slots ls hS hR hL hlo hc hs => lv_if_lt hS.1 hS.2.1 hdg ht (fun hx => (kt hx).2 G p e R s m args below meth c H locs cells slots ls hS hR hL hlo hc hs) (fun hx => (kf hx).2 G p e R s m args below meth c H locs cells slots ls hS hR hL hlo hc hs)⟩
theorem xw_if_lt' {x : Int32} {off : Int} {tgt : Nat} {β : Type} {φ : β → xw_O × xw_W} {A B : β} (h : xw_dec M.2.1 pc (.ifCond .lt off) 3 pc') (ht : (pc : Int) + off = (tgt : Int)) (kt : x < 0 → xw_w κ l M tgt L S w (φ A)) (kf : ¬ x < 0 → xw_w κ l M pc' L S w (φ B)) : xw_w κ l M pc L (.int x :: S) w (φ (if x < 0 then A else B)) :=
  xw_if_lt h ht (fun hx => by rw [if_pos hx]; exact kt hx) (fun hx => by rw [if_neg hx]; exact kf hx)
theorem xw_if_ge {x : Int32} {off : Int} {tgt : Nat} (h : xw_dec M.2.1 pc (.ifCond .ge off) 3 pc') (ht : (pc : Int) + off = (tgt : Int)) (kt : 0 ≤ x → xw_w κ l M tgt L S w E) (kf : ¬ 0 ≤ x → xw_w κ l M pc' L S w E) : xw_w κ l M pc L (.int x :: S) w E := by
  obtain ⟨hdg, rfl⟩ := h
  have hm : w.1 ≤ E.2.1 ∧ w.2.1 ≤ E.2.2.1 := by
    by_cases hx : 0 ≤ x
    · exact (kt hx).1
    · exact (kf hx).1
  exact ⟨hm, fun G p e R s m args below meth c H locs cells slots ls hS hR hL hlo hc hs => lv_if_ge hS.1 hS.2.1 hdg ht (fun hx => (kt hx).2 G p e R s m args below meth c H locs cells slots ls hS hR hL hlo hc hs) (fun hx => (kf hx).2 G p e R s m args below meth c H locs cells slots ls hS hR hL hlo hc hs)⟩
theorem xw_if_ge' {x : Int32} {off : Int} {tgt : Nat} {β : Type} {φ : β → xw_O × xw_W} {A B : β} (h : xw_dec M.2.1 pc (.ifCond .ge off) 3 pc') (ht : (pc : Int) + off = (tgt : Int)) (kt : 0 ≤ x → xw_w κ l M tgt L S w (φ A)) (kf : ¬ 0 ≤ x → xw_w κ l M pc' L S w (φ B)) : xw_w κ l M pc L (.int x :: S) w (φ (if 0 ≤ x then A else B)) :=
  xw_if_ge h ht (fun hx => by rw [if_pos hx]; exact kt hx) (fun hx => by rw [if_neg hx]; exact kf hx)
theorem xw_if_gt {x : Int32} {off : Int} {tgt : Nat} (h : xw_dec M.2.1 pc (.ifCond .gt off) 3 pc') (ht : (pc : Int) + off = (tgt : Int)) (kt : 0 < x → xw_w κ l M tgt L S w E) (kf : ¬ 0 < x → xw_w κ l M pc' L S w E) : xw_w κ l M pc L (.int x :: S) w E := by
  obtain ⟨hdg, rfl⟩ := h
  have hm : w.1 ≤ E.2.1 ∧ w.2.1 ≤ E.2.2.1 := by
    by_cases hx : 0 < x
    · exact (kt hx).1
    · exact (kf hx).1
  exact ⟨hm, fun G p e R s m args below meth c H locs cells slots ls hS hR hL hlo hc hs => lv_if_gt hS.1 hS.2.1 hdg ht (fun hx => (kt hx).2 G p e R s m args below meth c H locs cells slots ls hS hR hL hlo hc hs) (fun hx => (kf hx).2 G p e R s m args below meth c H locs cells slots ls hS hR hL hlo hc hs)⟩
theorem xw_if_gt' {x : Int32} {off : Int} {tgt : Nat} {β : Type} {φ : β → xw_O × xw_W} {A B : β} (h : xw_dec M.2.1 pc (.ifCond .gt off) 3 pc') (ht : (pc : Int) + off = (tgt : Int)) (kt : 0 < x → xw_w κ l M tgt L S w (φ A)) (kf : ¬ 0 < x → xw_w κ l M pc' L S w (φ B)) : xw_w κ l M pc L (.int x :: S) w (φ (if 0 < x then A else B)) :=
  xw_if_gt h ht (fun hx => by rw [if_pos hx]; exact kt hx) (fun hx => by rw [if_neg hx]; exact kf hx)
theorem xw_if_le {x : Int32} {off : Int} {tgt : Nat} (h : xw_dec M.2.1 pc (.ifCond .le off) 3 pc') (ht : (pc : Int) + off = (tgt : Int)) (kt : x ≤ 0 → xw_w κ l M tgt L S w E) (kf : ¬ x ≤ 0 → xw_w κ l M pc' L S w E) : xw_w κ l M pc L (.int x :: S) w E := by
  obtain ⟨hdg, rfl⟩ := h
  have hm : w.1 ≤ E.2.1 ∧ w.2.1 ≤ E.2.2.1 := by
    by_cases hx : x ≤ 0
    · exact (kt hx).1
    · exact (kf hx).1
  exact ⟨hm, fun G p e R s m args below meth c H locs cells slots ls hS hR hL hlo hc hs => lv_if_le hS.1 hS.2.1 hdg ht (fun hx => (kt hx).2 G p e R s m args below meth c H locs cells slots ls hS hR hL hlo hc hs) (fun hx => (kf hx).2 G p e R s m args below meth c H locs cells slots ls hS hR hL hlo hc hs)⟩
theorem xw_if_le' {x : Int32} {off : Int} {tgt : Nat} {β : Type} {φ : β → xw_O × xw_W} {A B : β} (h : xw_dec M.2.1 pc (.ifCond .le off) 3 pc') (ht : (pc : Int) + off = (tgt : Int)) (kt : x ≤ 0 → xw_w κ l M tgt L S w (φ A)) (kf : ¬ x ≤ 0 → xw_w κ l M pc' L S w (φ B)) : xw_w κ l M pc L (.int x :: S) w (φ (if x ≤ 0 then A else B)) :=
  xw_if_le h ht (fun hx => by rw [if_pos hx]; exact kt hx) (fun hx => by rw [if_neg hx]; exact kf hx)
theorem xw_icmp_eq {x y : Int32} {off : Int} {tgt : Nat} (h : xw_dec M.2.1 pc (.if_icmp .eq off) 3 pc') (ht : (pc : Int) + off = (tgt : Int)) (kt : x = y → xw_w κ l M tgt L S w E) (kf : ¬ x = y → xw_w κ l M pc' L S w E) : xw_w κ l M pc L (.int y :: .int x :: S) w E := by
  obtain ⟨hdg, rfl⟩ := h
  have hm : w.1 ≤ E.2.1 ∧ w.2.1 ≤ E.2.2.1 := by
    by_cases hx : x = y
    · exact (kt hx).1
    · exact (kf hx).1
  exact ⟨hm, fun G p e R s m args below meth c H locs cells slots ls hS hR hL hlo hc hs => lv_icmp_eq hS.1 hS.2.1 hdg ht (fun hx => (kt hx).2 G p e R s m args below meth c H locs cells slots ls hS hR hL hlo hc hs) (fun hx => (kf hx).2 G p e R s m args below meth c H locs cells slots ls hS hR hL hlo hc hs)⟩
theorem xw_icmp_eq' {x y : Int32} {off : Int} {tgt : Nat} {β : Type} {φ : β → xw_O × xw_W} {A B : β} (h : xw_dec M.2.1 pc (.if_icmp .eq off) 3 pc') (ht : (pc : Int) + off = (tgt : Int)) (kt : x = y → xw_w κ l M tgt L S w (φ A)) (kf : ¬ x = y → xw_w κ l M pc' L S w (φ B)) : xw_w κ l M pc L (.int y :: .int x :: S) w (φ (if x = y then A else B)) :=
  xw_icmp_eq h ht (fun hx => by rw [if_pos hx]; exact kt hx) (fun hx => by rw [if_neg hx]; exact kf hx)
theorem xw_icmp_ne {x y : Int32} {off : Int} {tgt : Nat} (h : xw_dec M.2.1 pc (.if_icmp .ne off) 3 pc') (ht : (pc : Int) + off = (tgt : Int)) (kt : ¬ x = y → xw_w κ l M tgt L S w E) (kf : x = y → xw_w κ l M pc' L S w E) : xw_w κ l M pc L (.int y :: .int x :: S) w E := by
  obtain ⟨hdg, rfl⟩ := h
  have hm : w.1 ≤ E.2.1 ∧ w.2.1 ≤ E.2.2.1 := by
    by_cases hx : x = y
    · exact (kf hx).1
    · exact (kt hx).1
  exact ⟨hm, fun G p e R s m args below meth c H locs cells slots ls hS hR hL hlo hc hs => lv_icmp_ne hS.1 hS.2.1 hdg ht (fun hx => (kt hx).2 G p e R s m args below meth c H locs cells slots ls hS hR hL hlo hc hs) (fun hx => (kf hx).2 G p e R s m args below meth c H locs cells slots ls hS hR hL hlo hc hs)⟩
theorem xw_icmp_ne' {x y : Int32} {off : Int} {tgt : Nat} {β : Type} {φ : β → xw_O × xw_W} {A B : β} (h : xw_dec M.2.1 pc (.if_icmp .ne off) 3 pc') (ht : (pc : Int) + off = (tgt : Int)) (kt : ¬ x = y → xw_w κ l M tgt L S w (φ B)) (kf : x = y → xw_w κ l M pc' L S w (φ A)) : xw_w κ l M pc L (.int y :: .int x :: S) w (φ (if x = y then A else B)) :=
  xw_icmp_ne h ht (fun hx => by rw [if_neg hx]; exact kt hx) (fun hx => by rw [if_pos hx]; exact kf hx)
theorem xw_icmp_lt {x y : Int32} {off : Int} {tgt : Nat} (h : xw_dec M.2.1 pc (.if_icmp .lt off) 3 pc') (ht : (pc : Int) + off = (tgt : Int)) (kt : x < y → xw_w κ l M tgt L S w E) (kf : ¬ x < y → xw_w κ l M pc' L S w E) : xw_w κ l M pc L (.int y :: .int x :: S) w E := by
  obtain ⟨hdg, rfl⟩ := h
  have hm : w.1 ≤ E.2.1 ∧ w.2.1 ≤ E.2.2.1 := by
    by_cases hx : x < y
    · exact (kt hx).1
    · exact (kf hx).1
  exact ⟨hm, fun G p e R s m args below meth c H locs cells slots ls hS hR hL hlo hc hs => lv_icmp_lt hS.1 hS.2.1 hdg ht (fun hx => (kt hx).2 G p e R s m args below meth c H locs cells slots ls hS hR hL hlo hc hs) (fun hx => (kf hx).2 G p e R s m args below meth c H locs cells slots ls hS hR hL hlo hc hs)⟩
theorem xw_icmp_lt' {x y : Int32} {off : Int} {tgt : Nat} {β : Type} {φ : β → xw_O × xw_W} {A B : β} (h : xw_dec M.2.1 pc (.if_icmp .lt off) 3 pc') (ht : (pc : Int) + off = (tgt : Int)) (kt : x < y → xw_w κ l M tgt L S w (φ A)) (kf : ¬ x < y → xw_w κ l M pc' L S w (φ B)) : xw_w κ l M pc L (.int y :: .int x :: S) w (φ (if x < y then A else B)) :=
  xw_icmp_lt h ht (fun hx => by rw [if_pos hx]; exact kt hx) (fun hx => by rw [if_neg hx]; exact kf hx)
theorem xw_icmp_ge {x y : Int32} {off : Int} {tgt : Nat} (h : xw_dec M.2.1 pc (.if_icmp .ge off) 3 pc') (ht : (pc : Int) + off = (tgt : Int)) (kt : y ≤ x → xw_w κ l M tgt L S w E) (kf : ¬ y ≤ x → xw_w κ l M pc' L S w E) : xw_w κ l M pc L (.int y :: .int x :: S) w E := by
  obtain ⟨hdg, rfl⟩ := h
  have hm : w.1 ≤ E.2.1 ∧ w.2.1 ≤ E.2.2.1 := by
    by_cases hx : y ≤ x
    · exact (kt hx).1
    · exact (kf hx).1
  exact ⟨hm, fun G p e R s m args below meth c H locs cells slots ls hS hR hL hlo hc hs => lv_icmp_ge hS.1 hS.2.1 hdg ht (fun hx => (kt hx).2 G p e R s m args below meth c H locs cells slots ls hS hR hL hlo hc hs) (fun hx => (kf hx).2 G p e R s m args below meth c H locs cells slots ls hS hR hL hlo hc hs)⟩
theorem xw_icmp_ge' {x y : Int32} {off : Int} {tgt : Nat} {β : Type} {φ : β → xw_O × xw_W} {A B : β} (h : xw_dec M.2.1 pc (.if_icmp .ge off) 3 pc') (ht : (pc : Int) + off = (tgt : Int)) (kt : y ≤ x → xw_w κ l M tgt L S w (φ A)) (kf : ¬ y ≤ x → xw_w κ l M pc' L S w (φ B)) : xw_w κ l M pc L (.int y :: .int x :: S) w (φ (if y ≤ x then A else B)) :=
  xw_icmp_ge h ht (fun hx => by rw [if_pos hx]; exact kt hx) (fun hx => by rw [if_neg hx]; exact kf hx)
theorem xw_icmp_gt {x y : Int32} {off : Int} {tgt : Nat} (h : xw_dec M.2.1 pc (.if_icmp .gt off) 3 pc') (ht : (pc : Int) + off = (tgt : Int)) (kt : y < x → xw_w κ l M tgt L S w E) (kf : ¬ y < x → xw_w κ l M pc' L S w E) : xw_w κ l M pc L (.int y :: .int x :: S) w E := by
  obtain ⟨hdg, rfl⟩ := h
  have hm : w.1 ≤ E.2.1 ∧ w.2.1 ≤ E.2.2.1 := by
    by_cases hx : y < x
    · exact (kt hx).1
    · exact (kf hx).1
  exact ⟨hm, fun G p e R s m args below meth c H locs cells slots ls hS hR hL hlo hc hs => lv_icmp_gt hS.1 hS.2.1 hdg ht (fun hx => (kt hx).2 G p e R s m args below meth c H locs cells slots ls hS hR hL hlo hc hs) (fun hx => (kf hx).2 G p e R s m args below meth c H locs cells slots ls hS hR hL hlo hc hs)⟩
theorem xw_icmp_gt' {x y : Int32} {off : Int} {tgt : Nat} {β : Type} {φ : β → xw_O × xw_W} {A B : β} (h : xw_dec M.2.1 pc (.if_icmp .gt off) 3 pc') (ht : (pc : Int) + off = (tgt : Int)) (kt : y < x → xw_w κ l M tgt L S w (φ A)) (kf : ¬ y < x → xw_w κ l M pc' L S w (φ B)) : xw_w κ l M pc L (.int y :: .int x :: S) w (φ (if y < x then A else B)) :=
  xw_icmp_gt h ht (fun hx => by rw [if_pos hx]; exact kt hx) (fun hx => by rw [if_neg hx]; exact kf hx)
theorem xw_icmp_le {x y : Int32} {off : Int} {tgt : Nat} (h : xw_dec M.2.1 pc (.if_icmp .le off) 3 pc') (ht : (pc : Int) + off = (tgt : Int)) (kt : x ≤ y → xw_w κ l M tgt L S w E) (kf : ¬ x ≤ y → xw_w κ l M pc' L S w E) : xw_w κ l M pc L (.int y :: .int x :: S) w E := by
  obtain ⟨hdg, rfl⟩ := h
  have hm : w.1 ≤ E.2.1 ∧ w.2.1 ≤ E.2.2.1 := by
    by_cases hx : x ≤ y
    · exact (kt hx).1
    · exact (kf hx).1
  exact ⟨hm, fun G p e R s m args below meth c H locs cells slots ls hS hR hL hlo hc hs => lv_icmp_le hS.1 hS.2.1 hdg ht (fun hx => (kt hx).2 G p e R s m args below meth c H locs cells slots ls hS hR hL hlo hc hs) (fun hx => (kf hx).2 G p e R s m args below meth c H locs cells slots ls hS hR hL hlo hc hs)⟩
theorem xw_icmp_le' {x y : Int32} {off : Int} {tgt : Nat} {β : Type} {φ : β → xw_O × xw_W} {A B : β} (h : xw_dec M.2.1 pc (.if_icmp .le off) 3 pc') (ht : (pc : Int) + off = (tgt : Int)) (kt : x ≤ y → xw_w κ l M tgt L S w (φ A)) (kf : ¬ x ≤ y → xw_w κ l M pc' L S w (φ B)) : xw_w κ l M pc L (.int y :: .int x :: S) w (φ (if x ≤ y then A else B)) :=
  xw_icmp_le h ht (fun hx => by rw [if_pos hx]; exact kt hx) (fun hx => by rw [if_neg hx]; exact kf hx)
theorem xw_if_eq_t {x : Int32} {off : Int} {tgt : Nat} (h : xw_dec M.2.1 pc (.ifCond .eq off) 3 pc') (ht : (pc : Int) + off = (tgt : Int)) (hx : x = 0) (k : xw_w κ l M tgt L S w E) : xw_w κ l M pc L (.int x :: S) w E := xw_if_eq h ht (fun _ => k) (fun hy => absurd hx hy)
theorem xw_if_eq_f {x : Int32} {off : Int} {tgt : Nat} (h : xw_dec M.2.1 pc (.ifCond .eq off) 3 pc') (ht : (pc : Int) + off = (tgt : Int)) (hx : ¬ x = 0) (k : xw_w κ l M pc' L S w E) : xw_w κ l M pc L (.int x :: S) w E := xw_if_eq h ht (fun hy => absurd hy hx) (fun _ => k)
theorem xw_if_eq_mi {x : Int32} {off : Int} {tgt J : Nat} {a b : Int32} (h : xw_dec M.2.1 pc (.ifCond .eq off) 3 pc') (ht : (pc : Int) + off = (tgt : Int)) (kt : x = 0 → ∀ E', xw_w κ l M J L (.int a :: S) w E' → xw_w κ l M tgt L S w E') (kf : ¬ x = 0 → ∀ E', xw_w κ l M J L (.int b :: S) w E' → xw_w κ l M pc' L S w E') (k : xw_w κ l M J L (.int (if x = 0 then a else b) :: S) w E) : xw_w κ l M pc L (.int x :: S) w E :=
  xw_if_eq h ht (fun hx => kt hx _ (by rw [if_pos hx] at k; exact k)) (fun hx => kf hx _ (by rw [if_neg hx] at k; exact k))
theorem xw_if_eq_mw {x : Int32} {off : Int} {tgt J n u : Nat} {σ a b : xs_S} {ρ : xs_R} (h : xw_dec M.2.1 pc (.ifCond .eq off) 3 pc') (ht : (pc : Int) + off = (tgt : Int)) (kt : x = 0 → ∀ E', xw_w κ l M J L S (n, u, a, ρ) E' → xw_w κ l M tgt L S (n, u, σ, ρ) E') (kf : ¬ x = 0 → ∀ E', xw_w κ l M J L S (n, u, b, ρ) E' → xw_w κ l M pc' L S (n, u, σ, ρ) E') (k : xw_w κ l M J L S (n, u, (if x = 0 then a else b), ρ) E) : xw_w κ l M pc L (.int x :: S) (n, u, σ, ρ) E :=
  xw_if_eq h ht (fun hx => kt hx _ (by rw [if_pos hx] at k; exact k)) (fun hx => kf hx _ (by rw [if_neg hx] at k; exact k))
theorem xw_if_ne_t {x : Int32} {off : Int} {tgt : Nat} (h : xw_dec M.2.1 pc (.ifCond .ne off) 3 pc') (ht : (pc : Int) + off = (tgt : Int)) (hx : ¬ x = 0) (k : xw_w κ l M tgt L S w E) : xw_w κ l M pc L (.int x :: S) w E := xw_if_ne h ht (fun _ => k) (fun hy => absurd hy hx)
theorem xw_if_ne_f {x : Int32} {off : Int} {tgt : Nat} (h : xw_dec M.2.1 pc (.ifCond .ne off) 3 pc') (ht : (pc : Int) + off = (tgt : Int)) (hx : x = 0) (k : xw_w κ l M pc' L S w E) : xw_w κ l M pc L (.int x :: S) w E := xw_if_ne h ht (fun hy => absurd hx hy) (fun _ => k)
theorem xw_if_ne_mi {x : Int32} {off : Int} {tgt J : Nat} {a b : Int32} (h : xw_dec M.2.1 pc (.ifCond .ne off) 3 pc') (ht : (pc : Int) + off = (tgt : Int)) (kt : ¬ x = 0 → ∀ E', xw_w κ l M J L (.int b :: S) w E' → xw_w κ l M tgt L S w E') (kf : x = 0 → ∀ E', xw_w κ l M J L (.int a :: S) w E' → xw_w κ l M pc' L S w E') (k : xw_w κ l M J L (.int (if x = 0 then a else b) :: S) w E) : xw_w κ l M pc L (.int x :: S) w E :=
  xw_if_ne h ht (fun hx => kt hx _ (by rw [if_neg hx] at k; exact k)) (fun hx => kf hx _ (by rw [if_pos hx] at k; exact k))
theorem xw_if_ne_mw {x : Int32} {off : Int} {tgt J n u : Nat} {σ a b : xs_S} {ρ : xs_R} (h : xw_dec M.2.1 pc (.ifCond .ne off) 3 pc') (ht : (pc : Int) + off = (tgt : Int)) (kt : ¬ x = 0 → ∀ E', xw_w κ l M J L S (n, u, b, ρ) E' → xw_w κ l M tgt L S (n, u, σ, ρ) E') (kf : x = 0 → ∀ E', xw_w κ l M J L S (n, u, a, ρ) E' → xw_w κ l M pc' L S (n, u, σ, ρ) E') (k : xw_w κ l M J L S (n, u, (if x = 0 then a else b), ρ) E) : xw_w κ l M pc L (.int x :: S) (n, u, σ, ρ) E :=
  xw_if_ne h ht (fun hx => kt hx _ (by rw [if_neg hx] at k; exact k)) (fun hx => kf hx _ (by rw [if_pos hx] at k; exact k))
theorem xw_if_lt_t {x : Int32} {off : Int} {tgt : Nat} (h : xw_dec M.2.1 pc (.ifCond .lt off) 3 pc') (ht : (pc : Int) + off = (tgt : Int)) (hx : x < 0) (k : xw_w κ l M tgt L S w E) : xw_w κ l M pc L (.int x :: S) w E := xw_if_lt h ht (fun _ => k) (fun hy => absurd hx hy)
theorem xw_if_lt_f {x : Int32} {off : Int} {tgt : Nat} (h : xw_dec M.2.1 pc (.ifCond .lt off) 3 pc') (ht : (pc : Int) + off = (tgt : Int)) (hx : ¬ x < 0) (k : xw_w κ l M pc' L S w E) : xw_w κ l M pc L (.int x :: S) w E := xw_if_lt h ht (fun hy => absurd hy hx) (fun _ => k)
theorem xw_if_lt_mi {x : Int32} {off : Int} {tgt J : Nat} {a b : Int32} (h : xw_dec M.2.1 pc (.ifCond .lt off) 3 pc') (ht : (pc : Int) + off = (tgt : Int)) (kt : x < 0 → ∀ E', xw_w κ l M J L (.int a :: S) w E' → xw_w κ l M tgt L S w E') (kf : ¬ x < 0 → ∀ E', xw_w κ l M J L (.int b :: S) w E' → xw_w κ l M pc' L S w E') (k : xw_w κ l M J L (.int (if x < 0 then a else b) :: S) w E) : xw_w κ l M pc L (.int x :: S) w E :=
  xw_if_lt h ht (fun hx => kt hx _ (by rw [if_pos hx] at k; exact k)) (fun hx => kf hx _ (by rw [if_neg hx] at k; exact k))
theorem xw_if_lt_mw {x : Int32} {off : Int} {tgt J n u : Nat} {σ a b : xs_S} {ρ : xs_R} (h : xw_dec M.2.1 pc (.ifCond .lt off) 3 pc') (ht : (pc : Int) + off = (tgt : Int)) (kt : x < 0 → ∀ E', xw_w κ l M J L S (n, u, a, ρ) E' → xw_w κ l M tgt L S (n, u, σ, ρ) E') (kf : ¬ x < 0 → ∀ E', xw_w κ l M J L S (n, u, b, ρ) E' → xw_w κ l M pc' L S (n, u, σ, ρ) E') (k : xw_w κ l M J L S (n, u, (if x < 0 then a else b), ρ) E) : xw_w κ l M pc L (.int x :: S) (n, u, σ, ρ) E :=
  xw_if_lt h ht (fun hx => kt hx _ (by rw [if_pos hx] at k; exact k)) (fun hx => kf hx _ (by rw [if_neg hx] at k; exact k))
theorem xw_if_ge_t {x : Int32} {off : Int} {tgt : Nat} (h : xw_dec M.2.1 pc (.ifCond .ge off) 3 pc') (ht : (pc : Int) + off = (tgt : Int)) (hx : 0 ≤ x) (k : xw_w κ l M tgt L S w E) : xw_w κ l M pc L (.int x :: S) w E := xw_if_ge h ht (fun _ => k) (fun hy => absurd hx hy)
theorem xw_if_ge_f {x : Int32} {off : Int} {tgt : Nat} (h : xw_dec M.2.1 pc (.ifCond .ge off) 3 pc') (ht : (pc : Int) + off = (tgt : Int)) (hx : ¬ 0 ≤ x) (k : xw_w κ l M pc' L S w E) : xw_w κ l M pc L (.int x :: S) w E := xw_if_ge h ht (fun hy => absurd hy hx) (fun _ => k)
theorem xw_if_ge_mi {x : Int32} {off : Int} {tgt J : Nat} {a b : Int32} (h : xw_dec M.2.1 pc (.ifCond .ge off) 3 pc') (ht : (pc : Int) + off = (tgt : Int)) (kt : 0 ≤ x → ∀ E', xw_w κ l M J L (.int a :: S) w E' → xw_w κ l M tgt L S w E') (kf : ¬ 0 ≤ x → ∀ E', xw_w κ l M J L (.int b :: S) w E' → xw_w κ l M pc' L S w E') (k : xw_w κ l M J L (.int (if 0 ≤ x then a else b) :: S) w E) : xw_w κ l M pc L (.int x :: S) w E :=
  xw_if_ge h ht (fun hx => kt hx _ (by rw [if_pos hx] at k; exact k)) (fun hx => kf hx _ (by rw [if_neg hx] at k; exact k))
theorem xw_if_ge_mw {x : Int32} {off : Int} {tgt J n u : Nat} {σ a b : xs_S} {ρ : xs_R} (h : xw_dec M.2.1 pc (.ifCond .ge off) 3 pc') (ht : (pc : Int) + off = (tgt : Int)) (kt : 0 ≤ x → ∀ E', xw_w κ l M J L S (n, u, a, ρ) E' → xw_w κ l M tgt L S (n, u, σ, ρ) E') (kf : ¬ 0 ≤ x → ∀ E', xw_w κ l M J L S (n, u, b, ρ) E' → xw_w κ l M pc' L S (n, u, σ, ρ) E') (k : xw_w κ l M J L S (n, u, (if 0 ≤ x then a else b), ρ) E) : xw_w κ l M pc L (.int x :: S) (n, u, σ, ρ) E :=
  xw_if_ge h ht (fun hx => kt hx _ (by rw [if_pos hx] at k; exact k)) (fun hx => kf hx _ (by rw [if_neg hx] at k; exact k))
theorem xw_if_gt_t {x : Int32} {off : Int} {tgt : Nat} (h : xw_dec M.2.1 pc (.ifCond .gt off) 3 pc') (ht : (pc : Int) + off = (tgt : Int)) (hx : 0 < x) (k : xw_w κ l M tgt L S w E) : xw_w κ l M pc L (.int x :: S) w E := xw_if_gt h ht (fun _ => k) (fun hy => absurd hx hy)
theorem xw_if_gt_f {x : Int32} {off : Int} {tgt : Nat} (h : xw_dec M.2.1 pc (.ifCond .gt off) 3 pc') (ht : (pc : Int) + off = (tgt : Int)) (hx : ¬ 0 < x) (k : xw_w κ l M pc' L S w E) : xw_w κ l M pc L (.int x :: S) w E := xw_if_gt h ht (fun hy => absurd hy hx) (fun _ => k)
theorem xw_if_gt_mi {x : Int32} {off : Int} {tgt J : Nat} {a b : Int32} (h : xw_dec M.2.1 pc (.ifCond .gt off) 3 pc') (ht : (pc : Int) + off = (tgt : Int)) (kt : 0 < x → ∀ E', xw_w κ l M J L (.int a :: S) w E' → xw_w κ l M tgt L S w E') (kf : ¬ 0 < x → ∀ E', xw_w κ l M J L (.int b :: S) w E' → xw_w κ l M pc' L S w E') (k : xw_w κ l M J L (.int (if 0 < x then a else b) :: S) w E) : xw_w κ l M pc L (.int x :: S) w E :=
  xw_if_gt h ht (fun hx => kt hx _ (by rw [if_pos hx] at k; exact k)) (fun hx => kf hx _ (by rw [if_neg hx] at k; exact k))
theorem xw_if_gt_mw {x : Int32} {off : Int} {tgt J n u : Nat} {σ a b : xs_S} {ρ : xs_R} (h : xw_dec M.2.1 pc (.ifCond .gt off) 3 pc') (ht : (pc : Int) + off = (tgt : Int)) (kt : 0 < x → ∀ E', xw_w κ l M J L S (n, u, a, ρ) E' → xw_w κ l M tgt L S (n, u, σ, ρ) E') (kf : ¬ 0 < x → ∀ E', xw_w κ l M J L S (n, u, b, ρ) E' → xw_w κ l M pc' L S (n, u, σ, ρ) E') (k : xw_w κ l M J L S (n, u, (if 0 < x then a else b), ρ) E) : xw_w κ l M pc L (.int x :: S) (n, u, σ, ρ) E :=
  xw_if_gt h ht (fun hx => kt hx _ (by rw [if_pos hx] at k; exact k)) (fun hx => kf hx _ (by rw [if_neg hx] at k; exact k))
theorem xw_if_le_t {x : Int32} {off : Int} {tgt : Nat} (h : xw_dec M.2.1 pc (.ifCond .le off) 3 pc') (ht : (pc : Int) + off = (tgt : Int)) (hx : x ≤ 0) (k : xw_w κ l M tgt L S w E) : xw_w κ l M pc L (.int x :: S) w E := xw_if_le h ht (fun _ => k) (fun hy => absurd hx hy)
theorem xw_if_le_f {x : Int32} {off : Int} {tgt : Nat} (h : xw_dec M.2.1 pc (.ifCond .le off) 3 pc') (ht : (pc : Int) + off = (tgt : Int)) (hx : ¬ x ≤ 0) (k : xw_w κ l M pc' L S w E) : xw_w κ l M pc L (.int x :: S) w E := xw_if_le h ht (fun hy => absurd hy hx) (fun _ => k)
theorem xw_if_le_mi {x : Int32} {off : Int} {tgt J : Nat} {a b : Int32} (h : xw_dec M.2.1 pc (.ifCond .le off) 3 pc') (ht : (pc : Int) + off = (tgt : Int)) (kt : x ≤ 0 → ∀ E', xw_w κ l M J L (.int a :: S) w E' → xw_w κ l M tgt L S w E') (kf : ¬ x ≤ 0 → ∀ E', xw_w κ l M J L (.int b :: S) w E' → xw_w κ l M pc' L S w E') (k : xw_w κ l M J L (.int (if x ≤ 0 then a else b) :: S) w E) : xw_w κ l M pc L (.int x :: S) w E :=
  xw_if_le h ht (fun hx => kt hx _ (by rw [if_pos hx] at k; exact k)) (fun hx => kf hx _ (by rw [if_neg hx] at k; exact k))
theorem xw_if_le_mw {x : Int32} {off : Int} {tgt J n u : Nat} {σ a b : xs_S} {ρ : xs_R} (h : xw_dec M.2.1 pc (.ifCond .le off) 3 pc') (ht : (pc : Int) + off = (tgt : Int)) (kt : x ≤ 0 → ∀ E', xw_w κ l M J L S (n, u, a, ρ) E' → xw_w κ l M tgt L S (n, u, σ, ρ) E') (kf : ¬ x ≤ 0 → ∀ E', xw_w κ l M J L S (n, u, b, ρ) E' → xw_w κ l M pc' L S (n, u, σ, ρ) E') (k : xw_w κ l M J L S (n, u, (if x ≤ 0 then a else b), ρ) E) : xw_w κ l M pc L (.int x :: S) (n, u, σ, ρ) E :=
  xw_if_le h ht (fun hx => kt hx _ (by rw [if_pos hx] at k; exact k)) (fun hx => kf hx _ (by rw [if_neg hx] at k; exact k))
theorem xw_icmp_eq_t {x y : Int32} {off : Int} {tgt : Nat} (h : xw_dec M.2.1 pc (.if_icmp .eq off) 3 pc') (ht : (pc : Int) + off = (tgt : Int)) (hx : x = y) (k : xw_w κ l M tgt L S w E) : xw_w κ l M pc L (.int y :: .int x :: S) w E := xw_icmp_eq h ht (fun _ => k) (fun hy => absurd hx hy)
theorem xw_icmp_eq_f {x y : Int32} {off : Int} {tgt : Nat} (h : xw_dec M.2.1 pc (.if_icmp .eq off) 3 pc') (ht : (pc : Int) + off = (tgt : Int)) (hx : ¬ x = y) (k : xw_w κ l M pc' L S w E) : xw_w κ l M pc L (.int y :: .int x :: S) w E := xw_icmp_eq h ht (fun hy => absurd hy hx) (fun _ => k)
theorem xw_icmp_eq_mi {x y : Int32} {off : Int} {tgt J : Nat} {a b : Int32} (h : xw_dec M.2.1 pc (.if_icmp .eq off) 3 pc') (ht : (pc : Int) + off = (tgt : Int)) (kt : x = y → ∀ E', xw_w κ l M J L (.int a :: S) w E' → xw_w κ l M tgt L S w E') (kf : ¬ x = y → ∀ E', xw_w κ l M J L (.int b :: S) w E' → xw_w κ l M pc' L S w E') (k : xw_w κ l M J L (.int (if x = y then a else b) :: S) w E) : xw_w κ l M pc L (.int y :: .int x :: S) w E :=
  xw_icmp_eq h ht (fun hx => kt hx _ (by rw [if_pos hx] at k; exact k)) (fun hx => kf hx _ (by rw [if_neg hx] at k; exact k))
theorem xw_icmp_eq_mw {x y : Int32} {off : Int} {tgt J n u : Nat} {σ a b : xs_S} {ρ : xs_R} (h : xw_dec M.2.1 pc (.if_icmp .eq off) 3 pc') (ht : (pc : Int) + off = (tgt : Int)) (kt : x = y → ∀ E', xw_w κ l M J L S (n, u, a, ρ) E' → xw_w κ l M tgt L S (n, u, σ, ρ) E') (kf : ¬ x = y → ∀ E', xw_w κ l M J L S (n, u, b, ρ) E' → xw_w κ l M pc' L S (n, u, σ, ρ) E') (k : xw_w κ l M J L S (n, u, (if x = y then a else b), ρ) E) : xw_w κ l M pc L (.int y :: .int x :: S) (n, u, σ, ρ) E :=
  xw_icmp_eq h ht (fun hx => kt hx _ (by rw [if_pos hx] at k; exact k)) (fun hx => kf hx _ (by rw [if_neg hx] at k; exact k))
theorem xw_icmp_ne_t {x y : Int32} {off : Int} {tgt : Nat} (h : xw_dec M.2.1 pc (.if_icmp .ne off) 3 pc') (ht : (pc : Int) + off = (tgt : Int)) (hx : ¬ x = y) (k : xw_w κ l M tgt L S w E) : xw_w κ l M pc L (.int y :: .int x :: S) w E := xw_icmp_ne h ht (fun _ => k) (fun hy => absurd hy hx)
theorem xw_icmp_ne_f {x y : Int32} {off : Int} {tgt : Nat} (h : xw_dec M.2.1 pc (.if_icmp .ne off) 3 pc') (ht : (pc : Int) + off = (tgt : Int)) (hx : x = y) (k : xw_w κ l M pc' L S w E) : xw_w κ l M pc L (.int y :: .int x :: S) w E := xw_icmp_ne h ht (fun hy => absurd hx hy) (fun _ => k)
theorem xw_icmp_ne_mi {x y : Int32} {off : Int} {tgt J : Nat} {a b : Int32} (h : xw_dec M.2.1 pc (.if_icmp .ne off) 3 pc') (ht : (pc : Int) + off = (tgt : Int)) (kt : ¬ x = y → ∀ E', xw_w κ l M J L (.int b :: S) w E' → xw_w κ l M tgt L S w E') (kf : x = y → ∀ E', xw_w κ l M J L (.int a :: S) w E' → xw_w κ l M pc' L S w E') (k : xw_w κ l M J L (.int (if x = y then a else b) :: S) w E) : xw_w κ l M pc L (.int y :: .int x :: S) w E :=
  xw_icmp_ne h ht (fun hx => kt hx _ (by rw [if_neg hx] at k; exact k)) (fun hx => kf hx _ (by rw [if_pos hx] at k; exact k))
theorem xw_icmp_ne_mw {x y : Int32} {off : Int} {tgt J n u : Nat} {σ a b : xs_S} {ρ : xs_R} (h : xw_dec M.2.1 pc (.if_icmp .ne off) 3 pc') (ht : (pc : Int) + off = (tgt : Int)) (kt : ¬ x = y → ∀ E', xw_w κ l M J L S (n, u, b, ρ) E' → xw_w κ l M tgt L S (n, u, σ, ρ) E') (kf : x = y → ∀ E', xw_w κ l M J L S (n, u, a, ρ) E' → xw_w κ l M pc' L S (n, u, σ, ρ) E') (k : xw_w κ l M J L S (n, u, (if x = y then a else b), ρ) E) : xw_w κ l M pc L (.int y :: .int x :: S) (n, u, σ, ρ) E :=
  xw_icmp_ne h ht (fun hx => kt hx _ (by rw [if_neg hx] at k; exact k)) (fun hx => kf hx _ (by rw [if_pos hx] at k; exact k))
theorem xw_icmp_lt_t {x y : Int32} {off : Int} {tgt : Nat} (h : xw_dec M.2.1 pc (.if_icmp .lt off) 3 pc') (ht : (pc : Int) + off = (tgt : Int)) (hx : x < y) (k : xw_w κ l M tgt L S w E) : xw_w κ l M pc L (.int y :: .int x :: S) w E := xw_icmp_lt h ht (fun _ => k) (fun hy => absurd hx hy)
theorem xw_icmp_lt_f {x y : Int32} {off : Int} {tgt : Nat} (h : xw_dec M.2.1 pc (.if_icmp .lt off) 3 pc') (ht : (pc : Int) + off = (tgt : Int)) (hx : ¬ x < y) (k : xw_w κ l M pc' L S w E) : xw_w κ l M pc L (.int y :: .int x :: S) w E := xw_icmp_lt h ht (fun hy => absurd hy hx) (fun _ => k)
theorem xw_icmp_lt_mi {x y : Int32} {off : Int} {tgt J : Nat} {a b : Int32} (h : xw_dec M.2.1 pc (.if_icmp .lt off) 3 pc') (ht : (pc : Int) + off = (tgt : Int)) (kt : x < y → ∀ E', xw_w κ l M J L (.int a :: S) w E' → xw_w κ l M tgt L S w E') (kf : ¬ x < y → ∀ E', xw_w κ l M J L (.int b :: S) w E' → xw_w κ l M pc' L S w E') (k : xw_w κ l M J L (.int (if x < y then a else b) :: S) w E) : xw_w κ l M pc L (.int y :: .int x :: S) w E :=
  xw_icmp_lt h ht (fun hx => kt hx _ (by rw [if_pos hx] at k; exact k)) (fun hx => kf hx _ (by rw [if_neg hx] at k; exact k))
theorem xw_icmp_lt_mw {x y : Int32} {off : Int} {tgt J n u : Nat} {σ a b : xs_S} {ρ : xs_R} (h : xw_dec M.2.1 pc (.if_icmp .lt off) 3 pc') (ht : (pc : Int) + off = (tgt : Int)) (kt : x < y → ∀ E', xw_w κ l M J L S (n, u, a, ρ) E' → xw_w κ l M tgt L S (n, u, σ, ρ) E') (kf : ¬ x < y → ∀ E', xw_w κ l M J L S (n, u, b, ρ) E' → xw_w κ l M pc' L S (n, u, σ, ρ) E') (k : xw_w κ l M J L S (n, u, (if x < y then a else b), ρ) E) : xw_w κ l M pc L (.int y :: .int x :: S) (n, u, σ, ρ) E :=
  xw_icmp_lt h ht (fun hx => kt hx _ (by rw [if_pos hx] at k; exact k)) (fun hx => kf hx _ (by rw [if_neg hx] at k; exact k))
theorem xw_icmp_ge_t {x y : Int32} {off : Int} {tgt : Nat} (h : xw_dec M.2.1 pc (.if_icmp .ge off) 3 pc') (ht : (pc : Int) + off = (tgt : Int)) (hx : y ≤ x) (k : xw_w κ l M tgt L S w E) : xw_w κ l M pc L (.int y :: .int x :: S) w E := xw_icmp_ge h ht (fun _ => k) (fun hy => absurd hx hy)
theorem xw_icmp_ge_f {x y : Int32} {off : Int} {tgt : Nat} (h : xw_dec M.2.1 pc (.if_icmp .ge off) 3 pc') (ht : (pc : Int) + off = (tgt : Int)) (hx : ¬ y ≤ x) (k : xw_w κ l M pc' L S w E) : xw_w κ l M pc L (.int y :: .int x :: S) w E := xw_icmp_ge h ht (fun hy => absurd hy hx) (fun _ => k)
theorem xw_icmp_ge_mi {x y : Int32} {off : Int} {tgt J : Nat} {a b : Int32} (h : xw_dec M.2.1 pc (.if_icmp .ge off) 3 pc') (ht : (pc : Int) + off = (tgt : Int)) (kt : y ≤ x → ∀ E', xw_w κ l M J L (.int a :: S) w E' → xw_w κ l M tgt L S w E') (kf : ¬ y ≤ x → ∀ E', xw_w κ l M J L (.int b :: S) w E' → xw_w κ l M pc' L S w E') (k : xw_w κ l M J L (.int (if y ≤ x then a else b) :: S) w E) : xw_w κ l M pc L (.int y :: .int x :: S) w E :=
  xw_icmp_ge h ht (fun hx => kt hx _ (by rw [if_pos hx] at k; exact k)) (fun hx => kf hx _ (by rw [if_neg hx] at k; exact k))
theorem xw_icmp_ge_mw {x y : Int32} {off : Int} {tgt J n u : Nat} {σ a b : xs_S} {ρ : xs_R} (h : xw_dec M.2.1 pc (.if_icmp .ge off) 3 pc') (ht : (pc : Int) + off = (tgt : Int)) (kt : y ≤ x → ∀ E', xw_w κ l M J L S (n, u, a, ρ) E' → xw_w κ l M tgt L S (n, u, σ, ρ) E') (kf : ¬ y ≤ x → ∀ E', xw_w κ l M J L S (n, u, b, ρ) E' → xw_w κ l M pc' L S (n, u, σ, ρ) E') (k : xw_w κ l M J L S (n, u, (if y ≤ x then a else b), ρ) E) : xw_w κ l M pc L (.int y :: .int x :: S) (n, u, σ, ρ) E :=
  xw_icmp_ge h ht (fun hx => kt hx _ (by rw [if_pos hx] at k; exact k)) (fun hx => kf hx _ (by rw [if_neg hx] at k; exact k))
theorem xw_icmp_gt_t {x y : Int32} {off : Int} {tgt : Nat} (h : xw_dec M.2.1 pc (.if_icmp .gt off) 3 pc') (ht : (pc : Int) + off = (tgt : Int)) (hx : y < x) (k : xw_w κ l M tgt L S w E) : xw_w κ l M pc L (.int y :: .int x :: S) w E := xw_icmp_gt h ht (fun _ => k) (fun hy => absurd hx hy)
theorem xw_icmp_gt_f {x y : Int32} {off : Int} {tgt : Nat} (h : xw_dec M.2.1 pc (.if_icmp .gt off) 3 pc') (ht : (pc : Int) + off = (tgt : Int)) (hx : ¬ y < x) (k : xw_w κ l M pc' L S w E) : xw_w κ l M pc L (.int y :: .int x :: S) w E := xw_icmp_gt h ht (fun hy => absurd hy hx) (fun _ => k)
theorem xw_icmp_gt_mi {x y : Int32} {off : Int} {tgt J : Nat} {a b : Int32} (h : xw_dec M.2.1 pc (.if_icmp .gt off) 3 pc') (ht : (pc : Int) + off = (tgt : Int)) (kt : y < x → ∀ E', xw_w κ l M J L (.int a :: S) w E' → xw_w κ l M tgt L S w E') (kf : ¬ y < x → ∀ E', xw_w κ l M J L (.int b :: S) w E' → xw_w κ l M pc' L S w E') (k : xw_w κ l M J L (.int (if y < x then a else b) :: S) w E) : xw_w κ l M pc L (.int y :: .int x :: S) w E :=
  xw_icmp_gt h ht (fun hx => kt hx _ (by rw [if_pos hx] at k; exact k)) (fun hx => kf hx _ (by rw [if_neg hx] at k; exact k))
theorem xw_icmp_gt_mw {x y : Int32} {off : Int} {tgt J n u : Nat} {σ a b : xs_S} {ρ : xs_R} (h : xw_dec M.2.1 pc (.if_icmp .gt off) 3 pc') (ht : (pc : Int) + off = (tgt : Int)) (kt : y < x → ∀ E', xw_w κ l M J L S (n, u, a, ρ) E' → xw_w κ l M tgt L S (n, u, σ, ρ) E') (kf : ¬ y < x → ∀ E', xw_w κ l M J L S (n, u, b, ρ) E' → xw_w κ l M pc' L S (n, u, σ, ρ) E') (k : xw_w κ l M J L S (n, u, (if y < x then a else b), ρ) E) : xw_w κ l M pc L (.int y :: .int x :: S) (n, u, σ, ρ) E :=
  xw_icmp_gt h ht (fun hx => kt hx _ (by rw [if_pos hx] at k; exact k)) (fun hx => kf hx _ (by rw [if_neg hx] at k; exact k))
theorem xw_icmp_le_t {x y : Int32} {off : Int} {tgt : Nat} (h : xw_dec M.2.1 pc (.if_icmp .le off) 3 pc') (ht : (pc : Int) + off = (tgt : Int)) (hx : x ≤ y) (k : xw_w κ l M tgt L S w E) : xw_w κ l M pc L (.int y :: .int x :: S) w E := xw_icmp_le h ht (fun _ => k) (fun hy => absurd hx hy)
theorem xw_icmp_le_f {x y : Int32} {off : Int} {tgt : Nat} (h : xw_dec M.2.1 pc (.if_icmp .le off) 3 pc') (ht : (pc : Int) + off = (tgt : Int)) (hx : ¬ x ≤ y) (k : xw_w κ l M pc' L S w E) : xw_w κ l M pc L (.int y :: .int x :: S) w E := xw_icmp_le h ht (fun hy => absurd hy hx) (fun _ => k)
theorem xw_icmp_le_mi {x y : Int32} {off : Int} {tgt J : Nat} {a b : Int32} (h : xw_dec M.2.1 pc (.if_icmp .le off) 3 pc') (ht : (pc : Int) + off = (tgt : Int)) (kt : x ≤ y → ∀ E', xw_w κ l M J L (.int a :: S) w E' → xw_w κ l M tgt L S w E') (kf : ¬ x ≤ y → ∀ E', xw_w κ l M J L (.int b :: S) w E' → xw_w κ l M pc' L S w E') (k : xw_w κ l M J L (.int (if x ≤ y then a else b) :: S) w E) : xw_w κ l M pc L (.int y :: .int x :: S) w E :=
  xw_icmp_le h ht (fun hx => kt hx _ (by rw [if_pos hx] at k; exact k)) (fun hx => kf hx _ (by rw [if_neg hx] at k; exact k))
theorem xw_icmp_le_mw {x y : Int32} {off : Int} {tgt J n u : Nat} {σ a b : xs_S} {ρ : xs_R} (h : xw_dec M.2.1 pc (.if_icmp .le off) 3 pc') (ht : (pc : Int) + off = (tgt : Int)) (kt : x ≤ y → ∀ E', xw_w κ l M J L S (n, u, a, ρ) E' → xw_w κ l M tgt L S (n, u, σ, ρ) E') (kf : ¬ x ≤ y → ∀ E', xw_w κ l M J L S (n, u, b, ρ) E' → xw_w κ l M pc' L S (n, u, σ, ρ) E') (k : xw_w κ l M J L S (n, u, (if x ≤ y then a else b), ρ) E) : xw_w κ l M pc L (.int y :: .int x :: S) (n, u, σ, ρ) E :=
  xw_icmp_le h ht (fun hx => kt hx _ (by rw [if_pos hx] at k; exact k)) (fun hx => kf hx _ (by rw [if_neg hx] at k; exact k))
/-- a value gets a name -/
theorem xw_li {x : Int32} {β : Type} {φ : β → xw_O × xw_W} {f : Int32 → β} (k : ∀ y, y = x → xw_w κ l M pc L (.int y :: S) w (φ (f y))) : xw_w κ l M pc L (.int x :: S) w (φ (xl_l x f)) := k x rfl
theorem xw_lj {x : Int64} {β : Type} {φ : β → xw_O × xw_W} {f : Int64 → β} (k : ∀ y, y = x → xw_w κ l M pc L (.long y :: S) w (φ (f y))) : xw_w κ l M pc L (.long x :: S) w (φ (xl_l x f)) := k x rfl
theorem xw_lw {n u : Nat} {x : xs_S} {ρ : xs_R} {β : Type} {φ : β → xw_O × xw_W} {f : xs_S → β} (k : ∀ y, y = x → xw_w κ l M pc L S (n, u, y, ρ) (φ (f y))) : xw_w κ l M pc L S (n, u, x, ρ) (φ (xl_l x f)) := k x rfl
theorem xw_lp {n u : Nat} {α : Type} {x : α × xs_S} {ρ : xs_R} {β : Type} {φ : β → xw_O × xw_W} {f : α × xs_S → β} (k : ∀ y, y = x → xw_w κ l M pc L S (n, u, y.2, ρ) (φ (f y))) : xw_w κ l M pc L S (n, u, x.2, ρ) (φ (xl_l x f)) := k x rfl
end XI
end
section
/-! How methods end, by kind; calls by kind. -/
def ei_i (x : Int32) : Option Value := some (.int x)
def el_l (x : Int64) : Option Value := some (.long x)
def er_r (i : Nat) : Option Value := some (.ref i)
def eu_u (_ : Unit) : Option Value := none
abbrev xp_P (α : Type) : Type := Option α × xs_S
def xp_b {α β : Type} (r : xp_P α) (f : α → xs_S → xp_P β) : xp_P β := match r with
  | (some a, σ) => f a σ
  | (none, σ) => (none, σ)
/-- it answers v and changes nothing -/
def xe_v {α : Type} (en : α → Option Value) (n u : Nat) (σ : xs_S) (v : α) : xw_O × xw_W := (.inl (en v), (n, u, σ, xr_0))
/-- it leaves σ -/
def xe_w (n u : Nat) (σ : xs_S) : xw_O × xw_W := (.inl none, (n, u, σ, xr_0))
/-- it answers and leaves -/
def xe_p {α : Type} (en : α → Option Value) (n u : Nat) (r : α × xs_S) : xw_O × xw_W := (.inl (en r.1), (n, u, r.2, xr_0))
/-- it answers and leaves, or throws -/
def xe_t {α : Type} (en : α → Option Value) (n u : Nat) (r : xp_P α) : xw_O × xw_W := match r with
  | (some a, σ) => (.inl (en a), (n, u, σ, xr_0))
  | (none, σ) => (.inr n, (n + 1, u + 6, σ, xr_0))
abbrev xw_rm (M M' : xw_M) (rest : List Value) : Prop := M'.2.2.2.2.2.1 + 1 ≤ M.2.2.2.2.2.1 ∧ (rest.map fun v => v.category).sum + (M'.2.2.1 + 11) + M'.2.2.2.2.2.2 ≤ M.2.2.2.2.2.2
section XE
variable {κ : Nat → Nat × Nat} {l : Launch} {M M' : xw_M} {pc pc' n u len : Nat} {L : List (Option Value)} {S rest As : List Value} {w w1 : xw_W} {E : xw_O × xw_W} {σ : xs_S} {ig : Instr}
theorem xw_c0 {v : Option Value} (h : xw_dec M.2.1 pc ig len pc') (hlk : xw_lk κ l M M' pc w S rest As) (hok : xw_ok M') (hM : xm_m κ l M' As w (.inl v, w1)) (hroom : xw_rm M M' rest) (k : xw_w κ l M pc' L (v.toList ++ rest) w1 E) : xw_w κ l M pc L S w E := by
  obtain ⟨hdg, rfl⟩ := h
  refine xw_core hdg hlk hok hM hroom (fun v' hv => ?_) (fun i hi => by cases hi)
  have e : v = v' := Sum.inl.inj hv
  rw [← e]
  exact k
theorem xw_cVi {x : Int32} (h : xw_dec M.2.1 pc ig len pc') (hlk : xw_lk κ l M M' pc (n, u, σ, xr_0) S rest As) (hok : xw_ok M') (hM : xm_m κ l M' As (n, u, σ, xr_0) (xe_v ei_i n u σ x)) (hroom : xw_rm M M' rest) (k : xw_w κ l M pc' L (.int x :: rest) (n, u, σ, xr_0) E) : xw_w κ l M pc L S (n, u, σ, xr_0) E := xw_c0 h hlk hok hM hroom k
theorem xw_cVr {x : Nat} (h : xw_dec M.2.1 pc ig len pc') (hlk : xw_lk κ l M M' pc (n, u, σ, xr_0) S rest As) (hok : xw_ok M') (hM : xm_m κ l M' As (n, u, σ, xr_0) (xe_v er_r n u σ x)) (hroom : xw_rm M M' rest) (k : xw_w κ l M pc' L (.ref x :: rest) (n, u, σ, xr_0) E) : xw_w κ l M pc L S (n, u, σ, xr_0) E := xw_c0 h hlk hok hM hroom k
theorem xw_cW {σ' : xs_S} (h : xw_dec M.2.1 pc ig len pc') (hlk : xw_lk κ l M M' pc (n, u, σ, xr_0) S rest As) (hok : xw_ok M') (hM : xm_m κ l M' As (n, u, σ, xr_0) (xe_w n u σ')) (hroom : xw_rm M M' rest) (k : xw_w κ l M pc' L rest (n, u, σ', xr_0) E) : xw_w κ l M pc L S (n, u, σ, xr_0) E := xw_c0 h hlk hok hM hroom k
theorem xw_cPi {r : Int32 × xs_S} (h : xw_dec M.2.1 pc ig len pc') (hlk : xw_lk κ l M M' pc (n, u, σ, xr_0) S rest As) (hok : xw_ok M') (hM : xm_m κ l M' As (n, u, σ, xr_0) (xe_p ei_i n u r)) (hroom : xw_rm M M' rest) (k : xw_w κ l M pc' L (.int r.1 :: rest) (n, u, r.2, xr_0) E) : xw_w κ l M pc L S (n, u, σ, xr_0) E := xw_c0 h hlk hok hM hroom k
/-- a call that may throw, out of a method that lets it through -/
theorem xw_cT {α β : Type} {en : α → Option Value} {en' : β → Option Value} {Fc : xp_P α} {f : α → xs_S → xp_P β} (h : xw_dec M.2.1 pc ig len pc') (hlk : xw_lk κ l M M' pc (n, u, σ, xr_0) S rest As) (hok : xw_ok M') (hM : xm_m κ l M' As (n, u, σ, xr_0) (xe_t en n u Fc)) (hroom : xw_rm M M' rest)
    (hout : M.2.2.2.2.1.all (fun x => !(decide (x.1 ≤ pc) && decide (pc < x.2.1))) = true) (k : ∀ a σ1, Fc = (some a, σ1) → xw_w κ l M pc' L ((en a).toList ++ rest) (n, u, σ1, xr_0) (xe_t en' n u (f a σ1))) : xw_w κ l M pc L S (n, u, σ, xr_0) (xe_t en' n u (xp_b Fc f)) := by
  obtain ⟨hdg, rfl⟩ := h
  obtain ⟨o, σ1⟩ := Fc
  cases o with
  | none =>
    refine xw_core hdg hlk hok hM hroom (fun v' hv => by cases hv) (fun i hi => ?_)
    have e : n = i := Sum.inr.inj hi
    rw [← e]
    exact xw_tl hout
  | some a =>
    refine xw_core hdg hlk hok hM hroom (fun v' hv => ?_) (fun i hi => by cases hi)
    have e : en a = v' := Sum.inl.inj hv
    rw [← e]
    exact k a σ1 rfl
theorem xw_cTi {β : Type} {en' : β → Option Value} {Fc : xp_P Int32} {f : Int32 → xs_S → xp_P β} (h : xw_dec M.2.1 pc ig len pc') (hlk : xw_lk κ l M M' pc (n, u, σ, xr_0) S rest As) (hok : xw_ok M') (hM : xm_m κ l M' As (n, u, σ, xr_0) (xe_t ei_i n u Fc)) (hroom : xw_rm M M' rest)
    (hout : M.2.2.2.2.1.all (fun x => !(decide (x.1 ≤ pc) && decide (pc < x.2.1))) = true) (k : ∀ a σ1, Fc = (some a, σ1) → xw_w κ l M pc' L (.int a :: rest) (n, u, σ1, xr_0) (xe_t en' n u (f a σ1))) : xw_w κ l M pc L S (n, u, σ, xr_0) (xe_t en' n u (xp_b Fc f)) := xw_cT h hlk hok hM hroom hout k
theorem xw_cTl {β : Type} {en' : β → Option Value} {Fc : xp_P Int64} {f : Int64 → xs_S → xp_P β} (h : xw_dec M.2.1 pc ig len pc') (hlk : xw_lk κ l M M' pc (n, u, σ, xr_0) S rest As) (hok : xw_ok M') (hM : xm_m κ l M' As (n, u, σ, xr_0) (xe_t el_l n u Fc)) (hroom : xw_rm M M' rest)
    (hout : M.2.2.2.2.1.all (fun x => !(decide (x.1 ≤ pc) && decide (pc < x.2.1))) = true) (k : ∀ a σ1, Fc = (some a, σ1) → xw_w κ l M pc' L (.long a :: rest) (n, u, σ1, xr_0) (xe_t en' n u (f a σ1))) : xw_w κ l M pc L S (n, u, σ, xr_0) (xe_t en' n u (xp_b Fc f)) := xw_cT h hlk hok hM hroom hout k
theorem xw_cTu {β : Type} {en' : β → Option Value} {Fc : xp_P Unit} {f : Unit → xs_S → xp_P β} (h : xw_dec M.2.1 pc ig len pc') (hlk : xw_lk κ l M M' pc (n, u, σ, xr_0) S rest As) (hok : xw_ok M') (hM : xm_m κ l M' As (n, u, σ, xr_0) (xe_t eu_u n u Fc)) (hroom : xw_rm M M' rest)
    (hout : M.2.2.2.2.1.all (fun x => !(decide (x.1 ≤ pc) && decide (pc < x.2.1))) = true) (k : ∀ a σ1, Fc = (some a, σ1) → xw_w κ l M pc' L rest (n, u, σ1, xr_0) (xe_t en' n u (f a σ1))) : xw_w κ l M pc L S (n, u, σ, xr_0) (xe_t en' n u (xp_b Fc f)) := xw_cT h hlk hok hM hroom hout k
/-- a call that may throw, under the method's own handler -/
theorem xw_cC {α : Type} {en : α → Option Value} {Fc : xp_P α} {p0 p1 hp ct : Nat} (h : xw_dec M.2.1 pc ig len pc') (hlk : xw_lk κ l M M' pc (n, u, σ, xr_0) S rest As) (hok : xw_ok M') (hM : xm_m κ l M' As (n, u, σ, xr_0) (xe_t en n u Fc)) (hroom : xw_rm M M' rest)
    (hh : M.2.2.2.2.1 = [(p0, p1, hp, ct)]) (hcov : p0 ≤ pc ∧ pc < p1) (hct : ct ≠ 0) (hlink : Cond.classLink M.1.cls ct "java/lang/IllegalStateException" ∈ xw_T) (hcast : Cond.castable "java/lang/IllegalStateException" "java/lang/IllegalStateException" ∈ xw_T) (hκ : 4 ≤ (κ n).1)
    (k : ∀ a σ1, Fc = (some a, σ1) → xw_w κ l M pc' L ((en a).toList ++ rest) (n, u, σ1, xr_0) E) (k2 : ∀ σ1, Fc = (none, σ1) → xw_w κ l M hp L [.ref n] (n + 1, u + 6, σ1, xr_0) E) : xw_w κ l M pc L S (n, u, σ, xr_0) E := by
  obtain ⟨hdg, rfl⟩ := h
  obtain ⟨o, σ1⟩ := Fc
  cases o with
  | none =>
    refine xw_core hdg hlk hok hM hroom (fun v' hv => by cases hv) (fun i hi => ?_)
    have e : n = i := Sum.inr.inj hi
    rw [← e]
    exact xw_tc hh hcov hct hlink hcast (Nat.lt_succ_self n) hκ (k2 σ1 rfl)
  | some a =>
    refine xw_core hdg hlk hok hM hroom (fun v' hv => ?_) (fun i hi => by cases hi)
    have e : en a = v' := Sum.inl.inj hv
    rw [← e]
    exact k a σ1 rfl
end XE
theorem xl_n {n i : Nat} (hn : 29 ≤ n) (h : i < 29) : i < n := Nat.lt_of_lt_of_le h hn
theorem vi_c (x : Int32) (n : Nat) (h : (!(decide (x < 0)) && decide (x.toNatClampNeg < n)) = true) : vp_in x n := by
  simp only [Bool.and_eq_true, Bool.not_eq_true', decide_eq_false_iff_not, decide_eq_true_eq] at h
  intro z
  rcases z with z | z
  · exact h.1 z
  · exact Nat.not_le.mpr h.2 z
end
section
/-! What the walks keep: small ranges that the places of arrays need. -/
def jr_R (x : Int32) (m : Int) : Prop := 0 ≤ x.toInt ∧ x.toInt ≤ m
def jx_J (σ : xs_S) : Prop := jr_R (σ 3 9) 31 ∧ jr_R (σ 7 9) 31 ∧ jr_R (σ 13 5) 7
def yx_J (σ : xs_S) : Prop := jr_R (σ 20 24) 31 ∧ jr_R (σ 21 24) 31 ∧ jr_R (σ 27 0) 7
theorem xu_same {σ : xs_S} {i k : Nat} {v : Int32} : xu_u σ i k v i k = v := by simp [xu_u]
theorem xu_off {σ : xs_S} {i k a b : Nat} {v : Int32} (h : ¬ (a = i ∧ b = k)) : xu_u σ i k v a b = σ a b := by
  unfold xu_u
  by_cases h1 : a = i
  · rw [if_pos h1]
    by_cases h2 : b = k
    · exact absurd ⟨h1, h2⟩ h
    · rw [if_neg h2]
  · rw [if_neg h1]
theorem jx_u {σ : xs_S} {i k : Nat} {v : Int32} (h : jx_J σ) (hn : ¬ (3 = i ∧ 9 = k) ∧ ¬ (7 = i ∧ 9 = k) ∧ ¬ (13 = i ∧ 5 = k)) : jx_J (xu_u σ i k v) := by
  unfold jx_J
  rw [xu_off hn.1, xu_off hn.2.1, xu_off hn.2.2]
  exact h
theorem jx_c {σ : xs_S} {i k : Nat} {v : Int32} (h : jx_J σ) (hn : 3 ≠ i ∧ 7 ≠ i ∧ 13 ≠ i) : jx_J (xu_u σ i k v) := jx_u h ⟨fun z => hn.1 z.1, fun z => hn.2.1 z.1, fun z => hn.2.2 z.1⟩
theorem yx_u {σ : xs_S} {i k : Nat} {v : Int32} (h : yx_J σ) (hn : ¬ (20 = i ∧ 24 = k) ∧ ¬ (21 = i ∧ 24 = k) ∧ ¬ (27 = i ∧ 0 = k)) : yx_J (xu_u σ i k v) := by
  unfold yx_J
  rw [xu_off hn.1, xu_off hn.2.1, xu_off hn.2.2]
  exact h
theorem yx_c {σ : xs_S} {i k : Nat} {v : Int32} (h : yx_J σ) (hn : 20 ≠ i ∧ 21 ≠ i ∧ 27 ≠ i) : yx_J (xu_u σ i k v) := yx_u h ⟨fun z => hn.1 z.1, fun z => hn.2.1 z.1, fun z => hn.2.2 z.1⟩
theorem jr_and {x m : Int32} {k : Nat} {b : Int} (hm : m.toBitVec.toNat = 2 ^ k - 1) (hk : k ≤ 30) (hb : (2 : Int) ^ k ≤ b + 1) : jr_R (x &&& m) b := by
  obtain ⟨j, hj, e⟩ := pk_andE x k hm
  have h1 : 2 ^ k ≤ 2 ^ 30 := Nat.pow_le_pow_right (by decide) hk
  have h3 : ((2 ^ k : Nat) : Int) = (2 : Int) ^ k := by simp
  rw [e]
  unfold jr_R
  rw [nI_toInt (by omega)]
  omega
theorem jx_p {σ : xs_S} {x : Int32} (h : jx_J σ) : jx_J (xu_u σ 3 9 (x &&& 31)) := by
  obtain ⟨a, b, c⟩ := h
  unfold jx_J
  rw [xu_same, xu_off (by decide), xu_off (by decide)]
  exact ⟨jr_and (k := 5) (by decide) (by decide) (by decide), b, c⟩
theorem jx_37 {σ : xs_S} (h : jx_J σ) : jx_J (xu_u σ 3 9 (σ 7 9)) := by
  obtain ⟨a, b, c⟩ := h
  unfold jx_J
  rw [xu_same, xu_off (by decide), xu_off (by decide)]
  exact ⟨b, b, c⟩
theorem jx_73 {σ : xs_S} (h : jx_J σ) : jx_J (xu_u σ 7 9 (σ 3 9)) := by
  obtain ⟨a, b, c⟩ := h
  unfold jx_J
  rw [xu_same, xu_off (by decide), xu_off (by decide)]
  exact ⟨a, a, c⟩
theorem jx_d {σ : xs_S} {c k : Nat} {v : Int32} (h : jx_J σ) (h9 : 9 ≠ k) (h5 : 5 ≠ k) : jx_J (xu_u σ c k v) := jx_u h ⟨fun z => h9 z.2, fun z => h9 z.2, fun z => h5 z.2⟩
theorem jx_w {σ : xs_S} {c : Nat} {x : Int32} (h : jx_J σ) : jx_J (xu_u σ c 5 (x &&& 7)) := by
  by_cases hc : 13 = c
  · subst hc
    obtain ⟨a, b, c⟩ := h
    unfold jx_J
    rw [xu_same, xu_off (by decide), xu_off (by decide)]
    exact ⟨a, b, jr_and (k := 3) (by decide) (by decide) (by decide)⟩
  · exact jx_u h ⟨by simp, by simp, fun z => hc z.1⟩
theorem jy_k1 {σ : xs_S} (h : yx_J σ) : yx_J (xu_u σ 21 24 (σ 20 24)) := by
  obtain ⟨a, b, c⟩ := h
  unfold yx_J
  rw [xu_same, xu_off (by decide), xu_off (by decide)]
  exact ⟨a, a, c⟩
theorem jy_k2 {σ : xs_S} (h : yx_J σ) : yx_J (xu_u σ 20 24 (σ 21 24)) := by
  obtain ⟨a, b, c⟩ := h
  unfold yx_J
  rw [xu_same, xu_off (by decide), xu_off (by decide)]
  exact ⟨b, b, c⟩
theorem yx_p {σ : xs_S} {x : Int32} (h : yx_J σ) : yx_J (xu_u σ 20 24 (x &&& 31)) := by
  obtain ⟨a, b, c⟩ := h
  unfold yx_J
  rw [xu_same, xu_off (by decide), xu_off (by decide)]
  exact ⟨jr_and (k := 5) (by decide) (by decide) (by decide), b, c⟩
theorem yx_n {σ : xs_S} {j : Nat} {x : Int32} (h : yx_J σ) : yx_J (xu_u σ 27 j (x &&& 7)) := by
  by_cases hc : 0 = j
  · subst hc
    obtain ⟨a, b, c⟩ := h
    unfold yx_J
    rw [xu_same, xu_off (by decide), xu_off (by decide)]
    exact ⟨a, b, jr_and (k := 3) (by decide) (by decide) (by decide)⟩
  · exact yx_u h ⟨by simp, by simp, fun z => hc z.2⟩
theorem yx_r {σ : xs_S} {j : Nat} {x : Int32} (h : yx_J σ) (hj : j < 24) : yx_J (xu_u σ 20 j x) := yx_u h ⟨fun z => by omega, fun z => by simp at z, fun z => by simp at z⟩
section XJ
variable {P : xs_S → Prop}
theorem xj_l {α β : Type} {x : α} {f : α → β × xs_S} (k : ∀ y, y = x → P (f y).2) : P (xl_l x f).2 := k x rfl
theorem xj_wl {α : Type} {x : α} {f : α → xs_S} (k : ∀ y, y = x → P (f y)) : P (xl_l x f) := k x rfl
theorem xj_f {β : Type} {c : Prop} [Decidable c] {A B : β × xs_S} (ht : c → P A.2) (hf : ¬ c → P B.2) : P (if c then A else B).2 := by
  by_cases h : c
  · rw [if_pos h]; exact ht h
  · rw [if_neg h]; exact hf h
theorem xj_wf {c : Prop} [Decidable c] {A B : xs_S} (ht : c → P A) (hf : ¬ c → P B) : P (if c then A else B) := by
  by_cases h : c
  · rw [if_pos h]; exact ht h
  · rw [if_neg h]; exact hf h
theorem xj_i {c : Prop} [Decidable c] {A B : xs_S} (ht : c → P A) (hf : ¬ c → P B) : P (if c then A else B) := xj_wf ht hf
theorem xj_b {α β : Type} {r : xp_P α} {f : α → xs_S → xp_P β} (h : P r.2) (k : ∀ a σ1, r = (some a, σ1) → P σ1 → P (f a σ1).2) : P (xp_b r f).2 := by
  obtain ⟨o, σ1⟩ := r
  cases o with
  | none => exact h
  | some a => exact k a σ1 rfl h
theorem xj_o {α : Type} {r : xp_P α} {o : Option α} {σ1 : xs_S} (h : P r.2) (hF : r = (o, σ1)) : P σ1 := by rw [hF] at h; exact h
end XJ
theorem vi_b {x : Int32} (h0 : ¬ x < 0) (h : ¬ (2048 : Int32) ≤ x) : vp_in x 2048 := by
  obtain ⟨j, hj, rfl⟩ := nI_of h0
  have h2 : ¬ nI 2048 ≤ nI j := h
  rw [nI_leI (by decide) hj] at h2
  exact vp_in_nI (by omega) (by decide)
section XLP
variable {κ : Nat → Nat × Nat} {l : Launch} {M : xw_M} {pc : Nat} {L : List (Option Value)} {S : List Value}
/-- an answer and a world get a name together -/
theorem xw_lpi {n u : Nat} {x : Int32 × xs_S} {ρ : xs_R} {β : Type} {φ : β → xw_O × xw_W} {f : Int32 × xs_S → β} (k : ∀ y, y = x → xw_w κ l M pc L (.int y.1 :: S) (n, u, y.2, ρ) (φ (f y))) : xw_w κ l M pc L (.int x.1 :: S) (n, u, x.2, ρ) (φ (xl_l x f)) := k x rfl
/-- two roads -/
theorem xw_sp {c : Prop} [Decidable c] {w : xw_W} {β : Type} {φ : β → xw_O × xw_W} {A B : β} (kt : c → xw_w κ l M pc L S w (φ A)) (kf : ¬ c → xw_w κ l M pc L S w (φ B)) : xw_w κ l M pc L S w (φ (if c then A else B)) := by
  by_cases h : c
  · rw [if_pos h]; exact kt h
  · rw [if_neg h]; exact kf h
theorem xw_tsI {x k : Int32} {w : xw_W} {E : xw_O × xw_W} {dflt lo hi off : Int} {offs : Array Int} {len pc' tgt : Nat} (h : xw_dec M.2.1 pc (.tableswitch dflt lo hi offs) len pc') (hx : x = k) (h1 : ¬ k.toInt < lo) (h2 : ¬ hi < k.toInt) (ho : offs[(k.toInt - lo).toNat]? = some off) (ht : (pc : Int) + off = (tgt : Int)) (kk : xw_w κ l M tgt L S w E) : xw_w κ l M pc L (.int x :: S) w E := by
  obtain ⟨hdg, rfl⟩ := h
  subst hx
  exact xw_s kk fun G p e R s m args below meth c H locs cells slots ls Q hS hR hL kw => lv_tableIn hS.1 hS.2.1 hdg h1 h2 ho ht kw
theorem xw_tsO {x : Int32} {w : xw_W} {E : xw_O × xw_W} {dflt lo hi : Int} {offs : Array Int} {len pc' tgt : Nat} (h : xw_dec M.2.1 pc (.tableswitch dflt lo hi offs) len pc') (hx : x.toInt < lo ∨ hi < x.toInt) (ht : (pc : Int) + dflt = (tgt : Int)) (kk : xw_w κ l M tgt L S w E) : xw_w κ l M pc L (.int x :: S) w E := by
  obtain ⟨hdg, rfl⟩ := h
  exact xw_s kk fun G p e R s m args below meth c H locs cells slots ls Q hS hR hL kw => lv_tableOut hS.1 hS.2.1 hdg hx ht kw
theorem xw_lsw {x : Int32} {w : xw_W} {E : xw_O × xw_W} {dflt off : Int} {ps : Array (Int × Int)} {len pc' tgt : Nat} (h : xw_dec M.2.1 pc (.lookupswitch dflt ps) len pc') (hp : (ps.toList.zip (ps.toList.drop 1)).all (fun (a, next) => a.1 < next.1) = true) (ho : Op.lookupswitch.offset ps.toList dflt x.toInt = off) (ht : (pc : Int) + off = (tgt : Int)) (kk : xw_w κ l M tgt L S w E) : xw_w κ l M pc L (.int x :: S) w E := by
  obtain ⟨hdg, rfl⟩ := h
  exact xw_s kk fun G p e R s m args below meth c H locs cells slots ls Q hS hR hL kw => lv_lookup hS.1 hS.2.1 hdg hp ho ht kw
end XLP
end
section
theorem zz_bad : (1 : Nat) = 2 := by decide
theorem zz_t (σ : xs_S) (h : jx_J σ) : jx_J (xu_u σ 3 9 5) := jx_u h (by decide)
end
